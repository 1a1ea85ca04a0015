def gp_fm (f : Nat → Int32) (nt : Nat) : Nat → Int32
  | 0 => 0
  | k + 1 => if gp_fm f nt k < gp_nu f (nI k) nt then gp_nu f (nI k) nt else gp_fm f nt k
def gp_fw (f : Nat → Int32) (nt : Nat) : Nat → Int32
  | 0 => 6
  | k + 1 => if gp_nu f (nI k) nt < gp_fw f nt k then gp_nu f (nI k) nt else gp_fw f nt k
