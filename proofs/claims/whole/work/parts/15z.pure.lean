/-- what the sums are made of, as the constructor lays them -/
def sp_sv (K P : Nat) (seed : Int32) : Nat → (Nat → Int64)
  | 0 => fun _ => 0
  | k + 1 => vp_updL (sp_sv K P seed k) k (sp_drawb (seed + (nI (40503 * (k + 1)))) K)
