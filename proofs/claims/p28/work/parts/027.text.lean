/-! ===== pure: texts ===== -/
def isL (c : Int) : Bool := decide (65 ≤ c ∧ c ≤ 90)
def isT (c : Int) : Bool := decide (c = 95 ∨ (65 ≤ c ∧ c ≤ 90))
def isK (c : Int) : Bool := decide (c = 43 ∨ c = 45)
def isF (c : Int) : Bool := decide (49 ≤ c ∧ c ≤ 53)
theorem isL_t {c : Int} : isL c = true ↔ 65 ≤ c ∧ c ≤ 90 := by unfold isL; rw [decide_eq_true_iff]
theorem isT_t {c : Int} : isT c = true ↔ c = 95 ∨ (65 ≤ c ∧ c ≤ 90) := by unfold isT; rw [decide_eq_true_iff]
theorem isK_t {c : Int} : isK c = true ↔ c = 43 ∨ c = 45 := by unfold isK; rw [decide_eq_true_iff]
theorem isF_t {c : Int} : isF c = true ↔ 49 ≤ c ∧ c ≤ 53 := by unfold isF; rw [decide_eq_true_iff]
def bfC (C : Int → Int) (i : Int) : Int := if 0 < i then C (i - 1) else 0
/-- how many items are read before the character i -/
def mN (C : Int → Int) : Nat → Int
  | 0 => 0
  | i + 1 => if isT (C i) = true ∧ ¬ isK (bfC C i) = true ∧ mN C i < 20 then mN C i + 1 else mN C i
def mS (C : Int → Int) (i : Int) : Int := mN C i.toNat
def itC (C : Int → Int) (i : Int) : Bool := isT (C i) && (!isK (bfC C i) && decide (mS C i < 20))
theorem itC_t {C : Int → Int} {i : Int} : itC C i = true ↔ isT (C i) = true ∧ ¬ isK (bfC C i) = true ∧ mS C i < 20 := by
  unfold itC
  simp
theorem mS_0 (C : Int → Int) : mS C 0 = 0 := rfl
theorem mS_s (C : Int → Int) {i : Int} (h : 0 ≤ i) : mS C (i + 1) = if itC C i = true then mS C i + 1 else mS C i := by
  have e : (i + 1).toNat = i.toNat + 1 := by omega
  have e2 : ((i.toNat : Nat) : Int) = i := by omega
  unfold mS
  rw [e]
  simp only [mN, e2]
  show (if isT (C i) = true ∧ ¬ isK (bfC C i) = true ∧ mS C i < 20 then mS C i + 1 else mS C i) = if itC C i = true then mS C i + 1 else mS C i
  by_cases q : itC C i = true
  · rw [if_pos q, if_pos (by have := itC_t.mp q; exact this)]
  · rw [if_neg q, if_neg (fun w => q (itC_t.mpr w))]
theorem mS_r (C : Int → Int) {i : Int} (h : 0 ≤ i) : 0 ≤ mS C i ∧ mS C i ≤ 20 := by
  have : ∀ n : Nat, 0 ≤ mN C n ∧ mN C n ≤ 20 := by
    intro n
    induction n with
    | zero => simp [mN]
    | succ n ih =>
      simp only [mN]
      split <;> omega
  exact this i.toNat
/-- whether the character i is an error, if none before is one -/
def bdC (C : Int → Int) (i : Int) : Bool := !itC C i && (!(isK (C i) && isL (bfC C i)) && !(isF (C i) && isK (bfC C i)))
theorem bdC_t {C : Int → Int} {i : Int} : bdC C i = true ↔ ¬ itC C i = true ∧ ¬ (isK (C i) = true ∧ isL (bfC C i) = true) ∧ ¬ (isF (C i) = true ∧ isK (bfC C i) = true) := by
  unfold bdC
  generalize itC C i = a
  generalize isK (C i) = b
  generalize isL (bfC C i) = c
  generalize isF (C i) = d
  generalize isK (bfC C i) = e
  cases a <;> cases b <;> cases c <;> cases d <;> cases e <;> simp
def fiA (b : Int → Bool) (len : Int) : Nat → Int
  | 0 => len
  | n + 1 => if b (len - (n + 1)) = true then len - (n + 1) else fiA b len n
def fiS (b : Int → Bool) (len i : Int) : Int := fiA b len (len - i).toNat
theorem fiS_e (b : Int → Bool) {len i : Int} (h : len ≤ i) : fiS b len i = len := by
  have e : (len - i).toNat = 0 := by omega
  unfold fiS
  rw [e]; rfl
theorem fiS_s (b : Int → Bool) {len i : Int} (h : i < len) : fiS b len i = if b i = true then i else fiS b len (i + 1) := by
  have e : (len - i).toNat = (len - (i + 1)).toNat + 1 := by omega
  have e2 : len - (((len - (i + 1)).toNat : Int) + 1) = i := by omega
  unfold fiS
  rw [e]
  simp only [fiA, e2]
theorem fiS_no (b : Int → Bool) {len : Int} : ∀ (n : Nat) (i : Int), (len - i).toNat = n → i ≤ len → fiS b len i = len → ∀ j : Int, i ≤ j → j < len → ¬ b j = true
  | 0, i, hn, hi, _, j, h0, h1 => by omega
  | n + 1, i, hn, hi, h, j, h0, h1 => by
    rw [fiS_s b (by omega)] at h
    by_cases q : b i = true
    · rw [if_pos q] at h; omega
    · rw [if_neg q] at h
      by_cases e : j = i
      · rw [e]; exact q
      · exact fiS_no b n (i + 1) (by omega) (by omega) h j (by omega) h1
theorem fiS_r (b : Int → Bool) {len : Int} : ∀ (n : Nat) (i : Int), (len - i).toNat = n → i ≤ len → i ≤ fiS b len i ∧ fiS b len i ≤ len
  | 0, i, hn, hi => by rw [fiS_e b (by omega)]; omega
  | n + 1, i, hn, hi => by
    have := fiS_r b (len := len) n (i + 1) (by omega) (by omega)
    rw [fiS_s b (by omega)]
    split <;> omega
def erS (C : Int → Int) (len : Int) : Int := fiS (bdC C) len 0
def cmP (C : Int → Int) (len : Int) : Bool := decide (0 < len ∧ erS C len = len ∧ ¬ isK (C (len - 1)) = true)
theorem cmP_t {C : Int → Int} {len : Int} : cmP C len = true ↔ 0 < len ∧ erS C len = len ∧ ¬ isK (C (len - 1)) = true := by unfold cmP; rw [decide_eq_true_iff]
theorem cmP_no {C : Int → Int} {len : Int} (h : cmP C len = true) : ∀ j : Int, 0 ≤ j → j < len → ¬ bdC C j = true := by
  rw [cmP_t] at h
  exact fiS_no (bdC C) _ 0 rfl (by omega) h.2.1
/-- without an error there is an item behind the first character -/
theorem mS_1 {C : Int → Int} {len : Int} (h : ∀ j : Int, 0 ≤ j → j < len → ¬ bdC C j = true) : ∀ n : Nat, 0 < n → (n : Int) ≤ len → 1 ≤ mS C n
  | 0, h0, _ => absurd h0 (by omega)
  | n + 1, _, h1 => by
    have e : (((n + 1 : Nat)) : Int) = (n : Int) + 1 := by omega
    rw [e, mS_s C (by omega)]
    by_cases en : n = 0
    · subst en
      have q := h 0 (by omega) (by omega)
      rw [bdC_t] at q
      have b0 : bfC C 0 = 0 := rfl
      have l0 : ¬ isL (bfC C 0) = true := by rw [b0]; decide
      have k0 : ¬ isK (bfC C 0) = true := by rw [b0]; decide
      have it : itC C ((0 : Nat) : Int) = true := Classical.byContradiction fun w => q ⟨w, fun z => l0 z.2, fun z => k0 z.2⟩
      rw [if_pos it]
      have := mS_r C (i := ((0 : Nat) : Int)) (by omega)
      omega
    · have := mS_1 h n (by omega) (by omega)
      split <;> omega
/-- letters and kerns as a text is written into rows -/
def wrF (C F : Int → Int) : Nat → Int → Int
  | 0 => F
  | i + 1 => if isT (C i) = true then insZ (wrF C F i) (mS C i) (mS C i) (if isL (C i) = true then C i - 65 else -1) else wrF C F i
def wrK (C F : Int → Int) : Nat → Int → Int
  | 0 => F
  | i + 1 => if isT (C i) = true then insZ (wrK C F i) (mS C i) (mS C i) 0 else if isF (C i) = true then uZ (wrK C F i) (mS C i - 1) (if C ((i : Int) - 1) = 45 then -(C i - 48) else C i - 48) else wrK C F i
theorem wrF_s (C F : Int → Int) {i : Int} (h : 0 ≤ i) : wrF C F (i + 1).toNat = if isT (C i) = true then insZ (wrF C F i.toNat) (mS C i) (mS C i) (if isL (C i) = true then C i - 65 else -1) else wrF C F i.toNat := by
  have e : (i + 1).toNat = i.toNat + 1 := by omega
  have e2 : ((i.toNat : Nat) : Int) = i := by omega
  rw [e]
  simp only [wrF, e2]
theorem wrK_s (C F : Int → Int) {i : Int} (h : 0 ≤ i) : wrK C F (i + 1).toNat = if isT (C i) = true then insZ (wrK C F i.toNat) (mS C i) (mS C i) 0 else if isF (C i) = true then uZ (wrK C F i.toNat) (mS C i - 1) (if C (i - 1) = 45 then -(C i - 48) else C i - 48) else wrK C F i.toNat := by
  have e : (i + 1).toNat = i.toNat + 1 := by omega
  have e2 : ((i.toNat : Nat) : Int) = i := by omega
  rw [e]
  simp only [wrK, e2]
