/-! ===== the pad's cells ===== -/
def pm_pad (y : Nat → ClassId) (q : Nat → Nat) (P : Nat → Nat) (ln a : Nat) (o ed ot nm sz : Int32) : va_W :=
  [(q 0, .inr (1, [.ref (q 1), .int (nI ln), .int (nI a), .int o, .int ed, .int ot, .int nm, .int sz])), (q 1, .inl (y 1, 80, .inl (pm_vn P)))]
