/-! ===== what a helper of the law answers ===== -/
def lwP {S : Type} (post : Int32 → S → Prop) (thr : String → Prop) (cd : String → Int) : Int32 → Option (Int32 × S) → Prop := fun rr uu => match uu with
  | none => ∃ E, thr E ∧ rr = iI (cd E)
  | some v => rr = iI 0 ∧ post v.1 v.2
def lwO (G : ZG) (f : Nat → Int64) : va_E := .inl (G.2.2.2.1, 1, .inr (.inl f))
def lwW {S : Type} (G : ZG) (wc : va_W) (w1 : S → va_W) (out : Nat) (f0 : Nat → Int64) : Option (Int32 × S) → va_W := fun uu => match uu with
  | none => (out, lwO G f0) :: wc
  | some v => (out, lwO G (vp_updL f0 0 v.1.toInt64)) :: w1 v.2
