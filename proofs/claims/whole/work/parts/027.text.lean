/-! ===== pure: texts ===== -/
def isL (c : Int) : Bool := decide (65 ≤ c ∧ c ≤ 90)
def isT (c : Int) : Bool := decide (c = 95 ∨ (65 ≤ c ∧ c ≤ 90))
def isK (c : Int) : Bool := decide (c = 43 ∨ c = 45)
def isF (c : Int) : Bool := decide (49 ≤ c ∧ c ≤ 53)
theorem isL_t {c : Int} : isL c = true ↔ 65 ≤ c ∧ c ≤ 90 := by unfold isL; rw [decide_eq_true_iff]
theorem isT_t {c : Int} : isT c = true ↔ c = 95 ∨ (65 ≤ c ∧ c ≤ 90) := by unfold isT; rw [decide_eq_true_iff]
theorem isK_t {c : Int} : isK c = true ↔ c = 43 ∨ c = 45 := by unfold isK; rw [decide_eq_true_iff]
theorem isF_t {c : Int} : isF c = true ↔ 49 ≤ c ∧ c ≤ 53 := by unfold isF; rw [decide_eq_true_iff]
def bfC (C : Int → Int) (i : Int) : Int := if 0 < i then C (i - 1) else 0
/-- how many items are read before the character i -/
def mN (C : Int → Int) : Nat → Int
  | 0 => 0
  | i + 1 => if isT (C i) = true ∧ ¬ isK (bfC C i) = true ∧ mN C i < 20 then mN C i + 1 else mN C i
def mS (C : Int → Int) (i : Int) : Int := mN C i.toNat
def itC (C : Int → Int) (i : Int) : Bool := isT (C i) && (!isK (bfC C i) && decide (mS C i < 20))
theorem itC_t {C : Int → Int} {i : Int} : itC C i = true ↔ isT (C i) = true ∧ ¬ isK (bfC C i) = true ∧ mS C i < 20 := by
  unfold itC
  simp
theorem mS_0 (C : Int → Int) : mS C 0 = 0 := rfl
theorem mS_s (C : Int → Int) {i : Int} (h : 0 ≤ i) : mS C (i + 1) = if itC C i = true then mS C i + 1 else mS C i := by
  have e : (i + 1).toNat = i.toNat + 1 := by omega
  have e2 : ((i.toNat : Nat) : Int) = i := by omega
  unfold mS
  rw [e]
  simp only [mN, e2]
  show (if isT (C i) = true ∧ ¬ isK (bfC C i) = true ∧ mS C i < 20 then mS C i + 1 else mS C i) = if itC C i = true then mS C i + 1 else mS C i
  by_cases q : itC C i = true
  · rw [if_pos q, if_pos (by have := itC_t.mp q; exact this)]
  · rw [if_neg q, if_neg (fun w => q (itC_t.mpr w))]
theorem mS_r (C : Int → Int) {i : Int} (h : 0 ≤ i) : 0 ≤ mS C i ∧ mS C i ≤ 20 := by
  have : ∀ n : Nat, 0 ≤ mN C n ∧ mN C n ≤ 20 := by
    intro n
    induction n with
    | zero => simp [mN]
    | succ n ih =>
      simp only [mN]
      split <;> omega
  exact this i.toNat
/-- whether the character i is an error, if none before is one -/
def bdC (C : Int → Int) (i : Int) : Bool := !itC C i && (!(isK (C i) && isL (bfC C i)) && !(isF (C i) && isK (bfC C i)))
theorem bdC_t {C : Int → Int} {i : Int} : bdC C i = true ↔ ¬ itC C i = true ∧ ¬ (isK (C i) = true ∧ isL (bfC C i) = true) ∧ ¬ (isF (C i) = true ∧ isK (bfC C i) = true) := by
  unfold bdC
  generalize itC C i = a
  generalize isK (C i) = b
  generalize isL (bfC C i) = c
  generalize isF (C i) = d
  generalize isK (bfC C i) = e
  cases a <;> cases b <;> cases c <;> cases d <;> cases e <;> simp
def fiA (b : Int → Bool) (len : Int) : Nat → Int
  | 0 => len
  | n + 1 => if b (len - (n + 1)) = true then len - (n + 1) else fiA b len n
def fiS (b : Int → Bool) (len i : Int) : Int := fiA b len (len - i).toNat
theorem fiS_e (b : Int → Bool) {len i : Int} (h : len ≤ i) : fiS b len i = len := by
  have e : (len - i).toNat = 0 := by omega
  unfold fiS
  rw [e]; rfl
theorem fiS_s (b : Int → Bool) {len i : Int} (h : i < len) : fiS b len i = if b i = true then i else fiS b len (i + 1) := by
  have e : (len - i).toNat = (len - (i + 1)).toNat + 1 := by omega
  have e2 : len - (((len - (i + 1)).toNat : Int) + 1) = i := by omega
  unfold fiS
  rw [e]
  simp only [fiA, e2]
theorem fiS_no (b : Int → Bool) {len : Int} : ∀ (n : Nat) (i : Int), (len - i).toNat = n → i ≤ len → fiS b len i = len → ∀ j : Int, i ≤ j → j < len → ¬ b j = true
  | 0, i, hn, hi, _, j, h0, h1 => by omega
  | n + 1, i, hn, hi, h, j, h0, h1 => by
    rw [fiS_s b (by omega)] at h
    by_cases q : b i = true
    · rw [if_pos q] at h; omega
    · rw [if_neg q] at h
      by_cases e : j = i
      · rw [e]; exact q
      · exact fiS_no b n (i + 1) (by omega) (by omega) h j (by omega) h1
theorem fiS_r (b : Int → Bool) {len : Int} : ∀ (n : Nat) (i : Int), (len - i).toNat = n → i ≤ len → i ≤ fiS b len i ∧ fiS b len i ≤ len
  | 0, i, hn, hi => by rw [fiS_e b (by omega)]; omega
  | n + 1, i, hn, hi => by
    have := fiS_r b (len := len) n (i + 1) (by omega) (by omega)
    rw [fiS_s b (by omega)]
    split <;> omega
def erS (C : Int → Int) (len : Int) : Int := fiS (bdC C) len 0
def cmP (C : Int → Int) (len : Int) : Bool := decide (0 < len ∧ erS C len = len ∧ ¬ isK (C (len - 1)) = true)
theorem cmP_t {C : Int → Int} {len : Int} : cmP C len = true ↔ 0 < len ∧ erS C len = len ∧ ¬ isK (C (len - 1)) = true := by unfold cmP; rw [decide_eq_true_iff]
theorem cmP_no {C : Int → Int} {len : Int} (h : cmP C len = true) : ∀ j : Int, 0 ≤ j → j < len → ¬ bdC C j = true := by
  rw [cmP_t] at h
  exact fiS_no (bdC C) _ 0 rfl (by omega) h.2.1
/-- without an error there is an item behind the first character -/
theorem mS_1 {C : Int → Int} {len : Int} (h : ∀ j : Int, 0 ≤ j → j < len → ¬ bdC C j = true) : ∀ n : Nat, 0 < n → (n : Int) ≤ len → 1 ≤ mS C n
  | 0, h0, _ => absurd h0 (by omega)
  | n + 1, _, h1 => by
    have e : (((n + 1 : Nat)) : Int) = (n : Int) + 1 := by omega
    rw [e, mS_s C (by omega)]
    by_cases en : n = 0
    · subst en
      have q := h 0 (by omega) (by omega)
      rw [bdC_t] at q
      have b0 : bfC C 0 = 0 := rfl
      have l0 : ¬ isL (bfC C 0) = true := by rw [b0]; decide
      have k0 : ¬ isK (bfC C 0) = true := by rw [b0]; decide
      have it : itC C ((0 : Nat) : Int) = true := Classical.byContradiction fun w => q ⟨w, fun z => l0 z.2, fun z => k0 z.2⟩
      rw [if_pos it]
      have := mS_r C (i := ((0 : Nat) : Int)) (by omega)
      omega
    · have := mS_1 h n (by omega) (by omega)
      split <;> omega
/-- letters and kerns as a text is written into rows -/
def wrF (C F : Int → Int) : Nat → Int → Int
  | 0 => F
  | i + 1 => if isT (C i) = true then insZ (wrF C F i) (mS C i) (mS C i) (if isL (C i) = true then C i - 65 else -1) else wrF C F i
def wrK (C F : Int → Int) : Nat → Int → Int
  | 0 => F
  | i + 1 => if isT (C i) = true then insZ (wrK C F i) (mS C i) (mS C i) 0 else if isF (C i) = true then uZ (wrK C F i) (mS C i - 1) (if C ((i : Int) - 1) = 45 then -(C i - 48) else C i - 48) else wrK C F i
theorem wrF_s (C F : Int → Int) {i : Int} (h : 0 ≤ i) : wrF C F (i + 1).toNat = if isT (C i) = true then insZ (wrF C F i.toNat) (mS C i) (mS C i) (if isL (C i) = true then C i - 65 else -1) else wrF C F i.toNat := by
  have e : (i + 1).toNat = i.toNat + 1 := by omega
  have e2 : ((i.toNat : Nat) : Int) = i := by omega
  rw [e]
  simp only [wrF, e2]
theorem wrK_s (C F : Int → Int) {i : Int} (h : 0 ≤ i) : wrK C F (i + 1).toNat = if isT (C i) = true then insZ (wrK C F i.toNat) (mS C i) (mS C i) 0 else if isF (C i) = true then uZ (wrK C F i.toNat) (mS C i - 1) (if C (i - 1) = 45 then -(C i - 48) else C i - 48) else wrK C F i.toNat := by
  have e : (i + 1).toNat = i.toNat + 1 := by omega
  have e2 : ((i.toNat : Nat) : Int) = i := by omega
  rw [e]
  simp only [wrK, e2]
set_option maxHeartbeats 400000 in
set_option maxRecDepth 100000 in
theorem mX4_isLetterCode (G : ZG) (c : Int) (hc : -2147483648 ≤ c ∧ c < 2147483648) : zMeti yX4_isLetterCode wsX4_isLetterCode { frames := 0, cells := 0, slots := 0, locals := 0 } G [.int (iI (c))] [] (fun (rr : Int32) (uu : Unit) => rr = iI (bI (isL c = true))) (fun (uu : Unit) => []) 0 0 := by
  refine z_meti (cc := cX4_isLetterCode) (nL := 1) (rt := .boolean) (by decide +kernel) rfl (Nat.le_of_ble_eq_true rfl) (fun X hX ex => ?_)
  have hX : ZOk G X 1 cX4_isLetterCode RX4 wsX4_isLetterCode { frames := 0, cells := 0, slots := 0, locals := 0 } := hX
  show Z G X 1 (0) (0) [] 0 [(0, .int (iI (c)))] []
  refine z_iload_n (pc := 0) hX 0 rfl rfl dX4_isLetterCode_0 ?_
  refine z_bipush (pc := 1) hX (z := 65) (by decide +kernel) dX4_isLetterCode_1 ?_
  refine z_icmp_lt (pc := 3) (tgt := 16) hX (by decide) (by omega) (by omega) dX4_isLetterCode_3 (fun c_1 => ?_) (fun c_1 => ?_)
  · refine z_iconst (pc := 16) hX dX4_isLetterCode_16 ?_
    exact ex _ _ _ () _ dX4_isLetterCode_17 (by first | decide +kernel | exact nar_b) (zb0 (by rw [isL_t]; omega)) rfl
  · refine z_iload_n (pc := 6) hX 0 rfl rfl dX4_isLetterCode_6 ?_
    refine z_bipush (pc := 7) hX (z := 90) (by decide +kernel) dX4_isLetterCode_7 ?_
    refine z_icmp_gt (pc := 9) (tgt := 16) hX (by decide) (by omega) (by omega) dX4_isLetterCode_9 (fun c_2 => ?_) (fun c_2 => ?_)
    · refine z_iconst (pc := 16) hX dX4_isLetterCode_16 ?_
      exact ex _ _ _ () _ dX4_isLetterCode_17 (by first | decide +kernel | exact nar_b) (zb0 (by rw [isL_t]; omega)) rfl
    · refine z_iconst (pc := 12) hX dX4_isLetterCode_12 ?_
      refine z_goto (pc := 13) (tgt := 17) hX (by decide) dX4_isLetterCode_13 ?_
      exact ex _ _ _ () _ dX4_isLetterCode_17 (by first | decide +kernel | exact nar_b) (zb1 (by rw [isL_t]; omega)) rfl
set_option maxHeartbeats 400000 in
set_option maxRecDepth 100000 in
theorem mX4_isKernSign (G : ZG) (c : Int) (hc : -2147483648 ≤ c ∧ c < 2147483648) : zMeti yX4_isKernSign wsX4_isKernSign { frames := 0, cells := 0, slots := 0, locals := 0 } G [.int (iI (c))] [] (fun (rr : Int32) (uu : Unit) => rr = iI (bI (isK c = true))) (fun (uu : Unit) => []) 0 0 := by
  refine z_meti (cc := cX4_isKernSign) (nL := 1) (rt := .boolean) (by decide +kernel) rfl (Nat.le_of_ble_eq_true rfl) (fun X hX ex => ?_)
  have hX : ZOk G X 1 cX4_isKernSign RX4 wsX4_isKernSign { frames := 0, cells := 0, slots := 0, locals := 0 } := hX
  show Z G X 1 (0) (0) [] 0 [(0, .int (iI (c)))] []
  refine z_iload_n (pc := 0) hX 0 rfl rfl dX4_isKernSign_0 ?_
  refine z_bipush (pc := 1) hX (z := 43) (by decide +kernel) dX4_isKernSign_1 ?_
  refine z_icmp_eq (pc := 3) (tgt := 12) hX (by decide) (by omega) (by omega) dX4_isKernSign_3 (fun c_1 => ?_) (fun c_1 => ?_)
  · refine z_iconst (pc := 12) hX dX4_isKernSign_12 ?_
    refine z_goto (pc := 13) (tgt := 17) hX (by decide) dX4_isKernSign_13 ?_
    exact ex _ _ _ () _ dX4_isKernSign_17 (by first | decide +kernel | exact nar_b) (zb1 (by rw [isK_t]; omega)) rfl
  · refine z_iload_n (pc := 6) hX 0 rfl rfl dX4_isKernSign_6 ?_
    refine z_bipush (pc := 7) hX (z := 45) (by decide +kernel) dX4_isKernSign_7 ?_
    refine z_icmp_ne (pc := 9) (tgt := 16) hX (by decide) (by omega) (by omega) dX4_isKernSign_9 (fun c_2 => ?_) (fun c_2 => ?_)
    · refine z_iconst (pc := 16) hX dX4_isKernSign_16 ?_
      exact ex _ _ _ () _ dX4_isKernSign_17 (by first | decide +kernel | exact nar_b) (zb0 (by rw [isK_t]; omega)) rfl
    · refine z_iconst (pc := 12) hX dX4_isKernSign_12 ?_
      refine z_goto (pc := 13) (tgt := 17) hX (by decide) dX4_isKernSign_13 ?_
      exact ex _ _ _ () _ dX4_isKernSign_17 (by first | decide +kernel | exact nar_b) (zb1 (by rw [isK_t]; omega)) rfl
set_option maxHeartbeats 400000 in
set_option maxRecDepth 100000 in
theorem mX4_isFigure (G : ZG) (c : Int) (hc : -2147483648 ≤ c ∧ c < 2147483648) : zMeti yX4_isFigure wsX4_isFigure { frames := 0, cells := 0, slots := 0, locals := 0 } G [.int (iI (c))] [] (fun (rr : Int32) (uu : Unit) => rr = iI (bI (isF c = true))) (fun (uu : Unit) => []) 0 0 := by
  refine z_meti (cc := cX4_isFigure) (nL := 1) (rt := .boolean) (by decide +kernel) rfl (Nat.le_of_ble_eq_true rfl) (fun X hX ex => ?_)
  have hX : ZOk G X 1 cX4_isFigure RX4 wsX4_isFigure { frames := 0, cells := 0, slots := 0, locals := 0 } := hX
  show Z G X 1 (0) (0) [] 0 [(0, .int (iI (c)))] []
  refine z_iload_n (pc := 0) hX 0 rfl rfl dX4_isFigure_0 ?_
  refine z_bipush (pc := 1) hX (z := 49) (by decide +kernel) dX4_isFigure_1 ?_
  refine z_icmp_lt (pc := 3) (tgt := 16) hX (by decide) (by omega) (by omega) dX4_isFigure_3 (fun c_1 => ?_) (fun c_1 => ?_)
  · refine z_iconst (pc := 16) hX dX4_isFigure_16 ?_
    exact ex _ _ _ () _ dX4_isFigure_17 (by first | decide +kernel | exact nar_b) (zb0 (by rw [isF_t]; omega)) rfl
  · refine z_iload_n (pc := 6) hX 0 rfl rfl dX4_isFigure_6 ?_
    refine z_bipush (pc := 7) hX (z := 53) (by decide +kernel) dX4_isFigure_7 ?_
    refine z_icmp_gt (pc := 9) (tgt := 16) hX (by decide) (by omega) (by omega) dX4_isFigure_9 (fun c_2 => ?_) (fun c_2 => ?_)
    · refine z_iconst (pc := 16) hX dX4_isFigure_16 ?_
      exact ex _ _ _ () _ dX4_isFigure_17 (by first | decide +kernel | exact nar_b) (zb0 (by rw [isF_t]; omega)) rfl
    · refine z_iconst (pc := 12) hX dX4_isFigure_12 ?_
      refine z_goto (pc := 13) (tgt := 17) hX (by decide) dX4_isFigure_13 ?_
      exact ex _ _ _ () _ dX4_isFigure_17 (by first | decide +kernel | exact nar_b) (zb1 (by rw [isF_t]; omega)) rfl
theorem hdX4_isLetterCode : yX4_isLetterCode.cls ≠ "java/lang/invoke/MethodHandle" ∧ yX4_isLetterCode.cls ≠ "java/lang/invoke/VarHandle" ∧ (parseMethodDescriptor yX4_isLetterCode.desc).map (fun d => d.parameters.length) = some 1 := by decide +kernel
set_option maxHeartbeats 400000 in
set_option maxRecDepth 100000 in
theorem mX4_isItem (G : ZG) (c : Int) (hc : -2147483648 ≤ c ∧ c < 2147483648) : zMeti yX4_isItem wsX4_isItem { frames := 1, cells := 0, slots := 0, locals := 20 } G [.int (iI (c))] [] (fun (rr : Int32) (uu : Unit) => rr = iI (bI (isT c = true))) (fun (uu : Unit) => []) 0 0 := by
  refine z_meti (cc := cX4_isItem) (nL := 1) (rt := .boolean) (by decide +kernel) rfl (Nat.le_of_ble_eq_true rfl) (fun X hX ex => ?_)
  have hX : ZOk G X 1 cX4_isItem RX4 wsX4_isItem { frames := 1, cells := 0, slots := 0, locals := 20 } := hX
  show Z G X 1 (0) (0) [] 0 [(0, .int (iI (c)))] []
  refine z_iload_n (pc := 0) hX 0 rfl rfl dX4_isItem_0 ?_
  refine z_bipush (pc := 1) hX (z := 95) (by decide +kernel) dX4_isItem_1 ?_
  refine z_icmp_eq (pc := 3) (tgt := 13) hX (by decide) (by omega) (by omega) dX4_isItem_3 (fun c_1 => ?_) (fun c_1 => ?_)
  · refine z_iconst (pc := 13) hX dX4_isItem_13 ?_
    refine z_goto (pc := 14) (tgt := 18) hX (by decide) dX4_isItem_14 ?_
    exact ex _ _ _ () _ dX4_isItem_18 (by first | decide +kernel | exact nar_b) (zb1 (by rw [isT_t]; (try simp only [isL_t] at *); omega)) rfl
  · refine z_iload_n (pc := 6) hX 0 rfl rfl dX4_isItem_6 ?_
    refine z_callS_i (pc := 7) (As := [.int (iI (c))]) (rest := []) (wc := []) (wr := []) hX (mX4_isLetterCode G (c) (by first | assumption | omega | (clear ex hX; grind [uZ]))) rfl rfl rfl gX4_isItem_X4_isLetterCode hdX4_isLetterCode ⟨Nat.le_of_ble_eq_true rfl, Nat.le_of_ble_eq_true rfl⟩ [] [] rfl rfl (by decide) (by decide) (by decide) rfl (Nat.le_of_ble_eq_true rfl) ⟨Nat.le_of_ble_eq_true rfl, Nat.le_of_ble_eq_true rfl⟩ dX4_isItem_7 (fun r_2 u_2 h_2 => ?_)
    subst h_2
    show Z G X 1 (0) (0) [] 10 [(0, .int (iI (c)))] [.int (iI (bI (isL c = true)))]
    refine z_bif_eq (pc := 10) (tgt := 17) hX (by decide) dX4_isItem_10 (fun c_3 => ?_) (fun c_3 => ?_)
    · refine z_iconst (pc := 17) hX dX4_isItem_17 ?_
      exact ex _ _ _ () _ dX4_isItem_18 (by first | decide +kernel | exact nar_b) (zb0 (by rw [isT_t]; (try simp only [isL_t] at *); omega)) rfl
    · refine z_iconst (pc := 13) hX dX4_isItem_13 ?_
      refine z_goto (pc := 14) (tgt := 18) hX (by decide) dX4_isItem_14 ?_
      exact ex _ _ _ () _ dX4_isItem_18 (by first | decide +kernel | exact nar_b) (zb1 (by rw [isT_t]; (try simp only [isL_t] at *); omega)) rfl
theorem hX4_add_X4 : ∀ w ∈ wsX40, w ∈ wsX4_add := by decide +kernel
theorem kX4_add_f15 : Cond.fieldLink RX4 15 "SignLetters$Text" "length" "I" ∈ wsX4_add := by decide +kernel
theorem kX4_add_f9 : Cond.fieldLink RX4 9 "SignLetters$Text" "codes" "[I" ∈ wsX4_add := by decide +kernel
set_option maxHeartbeats 400000 in
set_option maxRecDepth 100000 in
theorem mX4_add (G : ZG) (t : Nat) (tc : Nat) (len : Int) (C : Int → Int) (c : Int) (hlen : 0 ≤ len ∧ len < 60) : zMetv yX4_add wsX4_add { frames := 0, cells := 0, slots := 0, locals := 0 } G [.ref t, .int (iI (c))] [(t, .inr (4, [.ref tc, .int (iI (len))])), (tc, zI G 60 (C))] (fun (uu : Unit) => True) (fun (uu : Unit) => [(t, .inr (4, [.ref tc, .int (iI (len + 1))])), (tc, zI G 60 (uZ C len c))]) 0 0 := by
  refine z_metv (cc := cX4_add) (nL := 2) (by decide +kernel) rfl (Nat.le_of_ble_eq_true rfl) (fun X hX ex => ?_)
  have hX : ZOk G X 2 cX4_add RX4 wsX4_add { frames := 0, cells := 0, slots := 0, locals := 0 } := hX
  show Z G X 2 (0) (0) [(t, .inr (4, [.ref tc, .int (iI (len))])), (tc, zI G 60 (C))] 0 [(0, .ref t), (1, .int (iI (c)))] []
  refine z_aload_n (pc := 0) hX 0 rfl rfl dX4_add_0 ?_
  refine z_get (pc := 1) hX (T := TX4) (C := RX4) (N := 2) (i := 15) (ref := "SignLetters$Text") (name := "length") (desc := "I") hX4_add_X4 0 rfl rfl 1 (by decide) kX4_add_f15 ⟨rfl, rfl, rfl⟩ (v := .int (iI (len))) rfl dX4_add_1 ?_
  refine z_if_lt (pc := 4) (tgt := 39) hX (by decide) (by omega) dX4_add_4 (fun c_1 => absurd c_1 (by first | omega | (clear ex hX; grind [uZ]))) (fun c_1 => ?_)
  refine z_aload_n (pc := 7) hX 0 rfl rfl dX4_add_7 ?_
  refine z_get (pc := 8) hX (T := TX4) (C := RX4) (N := 2) (i := 15) (ref := "SignLetters$Text") (name := "length") (desc := "I") hX4_add_X4 0 rfl rfl 1 (by decide) kX4_add_f15 ⟨rfl, rfl, rfl⟩ (v := .int (iI (len))) rfl dX4_add_8 ?_
  refine z_aload_n (pc := 11) hX 0 rfl rfl dX4_add_11 ?_
  refine z_get (pc := 12) hX (T := TX4) (C := RX4) (N := 2) (i := 9) (ref := "SignLetters$Text") (name := "codes") (desc := "[I") hX4_add_X4 0 rfl rfl 0 (by decide) kX4_add_f9 ⟨rfl, rfl, rfl⟩ (v := .ref tc) rfl dX4_add_12 ?_
  refine z_alen (pc := 15) hX (z := 60) 1 rfl rfl dX4_add_15 ?_
  refine z_icmp_ge (pc := 16) (tgt := 39) hX (by decide) (by omega) (by omega) dX4_add_16 (fun c_2 => absurd c_2 (by first | omega | (clear ex hX; grind [uZ]))) (fun c_2 => ?_)
  refine z_aload_n (pc := 19) hX 0 rfl rfl dX4_add_19 ?_
  refine z_get (pc := 20) hX (T := TX4) (C := RX4) (N := 2) (i := 9) (ref := "SignLetters$Text") (name := "codes") (desc := "[I") hX4_add_X4 0 rfl rfl 0 (by decide) kX4_add_f9 ⟨rfl, rfl, rfl⟩ (v := .ref tc) rfl dX4_add_20 ?_
  refine z_aload_n (pc := 23) hX 0 rfl rfl dX4_add_23 ?_
  refine z_get (pc := 24) hX (T := TX4) (C := RX4) (N := 2) (i := 15) (ref := "SignLetters$Text") (name := "length") (desc := "I") hX4_add_X4 0 rfl rfl 1 (by decide) kX4_add_f15 ⟨rfl, rfl, rfl⟩ (v := .int (iI (len))) rfl dX4_add_24 ?_
  refine z_iload_n (pc := 27) hX 1 rfl rfl dX4_add_27 ?_
  refine z_iast (pc := 28) hX (N := 60) (F := C) (WS' := [(t, .inr (4, [.ref tc, .int (iI (len))])), (tc, zI G 60 (uZ C len c))]) 1 rfl (by omega) (by omega) rfl dX4_add_28 ?_
  refine z_aload_n (pc := 29) hX 0 rfl rfl dX4_add_29 ?_
  refine z_dup (pc := 30) hX rfl dX4_add_30 ?_
  refine z_get (pc := 31) hX (T := TX4) (C := RX4) (N := 2) (i := 15) (ref := "SignLetters$Text") (name := "length") (desc := "I") hX4_add_X4 0 rfl rfl 1 (by decide) kX4_add_f15 ⟨rfl, rfl, rfl⟩ (v := .int (iI (len))) rfl dX4_add_31 ?_
  refine z_iconst (pc := 34) hX dX4_add_34 ?_
  refine z_iadd (pc := 35) hX dX4_add_35 ?_
  refine z_put (pc := 36) hX (T := TX4) (C := RX4) (N := 2) (i := 15) (ref := "SignLetters$Text") (name := "length") (desc := "I") (WS' := [(t, .inr (4, [.ref tc, .int (iI (len + 1))])), (tc, zI G 60 (uZ C len c))]) tyX4 tyX4_ok nmX4 hX4_add_X4 0 rfl rfl 1 (by decide) kX4_add_f15 ⟨rfl, rfl, rfl⟩ rfl (ty := .int) (by decide +kernel) rfl rfl (Nat.le_of_ble_eq_true rfl) rfl dX4_add_36 ?_
  exact ex _ _ () _ dX4_add_39 trivial rfl
theorem hX4_errorIndex_X4 : ∀ w ∈ wsX40, w ∈ wsX4_errorIndex := by decide +kernel
theorem hdX4_isFigure : yX4_isFigure.cls ≠ "java/lang/invoke/MethodHandle" ∧ yX4_isFigure.cls ≠ "java/lang/invoke/VarHandle" ∧ (parseMethodDescriptor yX4_isFigure.desc).map (fun d => d.parameters.length) = some 1 := by decide +kernel
theorem hdX4_isItem : yX4_isItem.cls ≠ "java/lang/invoke/MethodHandle" ∧ yX4_isItem.cls ≠ "java/lang/invoke/VarHandle" ∧ (parseMethodDescriptor yX4_isItem.desc).map (fun d => d.parameters.length) = some 1 := by decide +kernel
theorem hdX4_isKernSign : yX4_isKernSign.cls ≠ "java/lang/invoke/MethodHandle" ∧ yX4_isKernSign.cls ≠ "java/lang/invoke/VarHandle" ∧ (parseMethodDescriptor yX4_isKernSign.desc).map (fun d => d.parameters.length) = some 1 := by decide +kernel
theorem kX4_errorIndex_f15 : Cond.fieldLink RX4 15 "SignLetters$Text" "length" "I" ∈ wsX4_errorIndex := by decide +kernel
theorem kX4_errorIndex_f9 : Cond.fieldLink RX4 9 "SignLetters$Text" "codes" "[I" ∈ wsX4_errorIndex := by decide +kernel
theorem kX4_errorIndex_inX5 : Cond.initialized RX5 ∈ wsX4_errorIndex := by decide +kernel
theorem kX4_errorIndex_stX5_valueAt : Cond.static yX5_valueAt ∈ wsX4_errorIndex := by decide +kernel
set_option maxHeartbeats 400000 in
set_option maxRecDepth 100000 in
theorem mX4_errorIndex (G : ZG) (t : Nat) (tc : Nat) (len : Int) (C : Int → Int) (hlen : 0 ≤ len ∧ len ≤ 60) (hC : ∀ j : Int, 0 ≤ j → j < len → 33 ≤ C j ∧ C j ≤ 126) : zMeti yX4_errorIndex wsX4_errorIndex { frames := 2, cells := 0, slots := 0, locals := 40 } G [.ref t] [(t, .inr (4, [.ref tc, .int (iI (len))])), (tc, zI G 60 (C))] (fun (rr : Int32) (uu : Unit) => rr = iI (erS C len)) (fun (uu : Unit) => [(t, .inr (4, [.ref tc, .int (iI (len))])), (tc, zI G 60 (C))]) 0 0 := by
  refine z_meti (cc := cX4_errorIndex) (nL := 5) (rt := .int) (by decide +kernel) rfl (Nat.le_of_ble_eq_true rfl) (fun X hX ex => ?_)
  have hX : ZOk G X 5 cX4_errorIndex RX4 wsX4_errorIndex { frames := 2, cells := 0, slots := 0, locals := 40 } := hX
  show Z G X 5 (0) (0) [(t, .inr (4, [.ref tc, .int (iI (len))])), (tc, zI G 60 (C))] 0 [(0, .ref t)] []
  refine z_iconst (pc := 0) hX dX4_errorIndex_0 ?_
  refine z_istore_n (pc := 1) hX (loc' := [(1, .int (iI (0))), (0, .ref t)]) rfl (by decide) rfl dX4_errorIndex_1 ?_
  refine z_iconst (pc := 2) hX dX4_errorIndex_2 ?_
  refine z_istore_n (pc := 3) hX (loc' := [(2, .int (iI (0))), (1, .int (iI (0))), (0, .ref t)]) rfl (by decide) rfl dX4_errorIndex_3 ?_
  have cut_4 : ∀ (fz : Nat) (i : Int) (h0 : 0 ≤ i) (h1 : i ≤ len) (hr : erS C len = fiS (bdC C) len i) (hm_4 : len - i < (fz : Int)), Z G X 5 (0) (0) [(t, .inr (4, [.ref tc, .int (iI (len))])), (tc, zI G 60 (C))] 4 [(0, .ref t), (1, .int (iI (mS C i))), (2, .int (iI (i)))] [] := by
    intro fz
    induction fz with
    | zero =>
      intro i h0 h1 hr hm_4
      exfalso
      omega
    | succ fz ih =>
      intro i h0 h1 hr hm_4
      have ih_4 := ih
      clear ih
      refine z_iload_n (pc := 4) hX 2 rfl rfl dX4_errorIndex_4 ?_
      refine z_aload_n (pc := 5) hX 0 rfl rfl dX4_errorIndex_5 ?_
      refine z_get (pc := 6) hX (T := TX4) (C := RX4) (N := 2) (i := 15) (ref := "SignLetters$Text") (name := "length") (desc := "I") hX4_errorIndex_X4 0 rfl rfl 1 (by decide) kX4_errorIndex_f15 ⟨rfl, rfl, rfl⟩ (v := .int (iI (len))) rfl dX4_errorIndex_6 ?_
      refine z_icmp_ge (pc := 9) (tgt := 106) hX (by decide) (by omega) (by omega) dX4_errorIndex_9 (fun c_1 => ?_) (fun c_1 => ?_)
      · refine z_aload_n (pc := 106) hX 0 rfl rfl dX4_errorIndex_106 ?_
        refine z_get (pc := 107) hX (T := TX4) (C := RX4) (N := 2) (i := 15) (ref := "SignLetters$Text") (name := "length") (desc := "I") hX4_errorIndex_X4 0 rfl rfl 1 (by decide) kX4_errorIndex_f15 ⟨rfl, rfl, rfl⟩ (v := .int (iI (len))) rfl dX4_errorIndex_107 ?_
        exact ex _ _ _ () _ dX4_errorIndex_110 rfl (congrArg iI (show (len : Int) = erS C len from by rw [hr, fiS_e _ (by omega)])) rfl
      · have hCi := hC i h0 (by omega)
        have hb : -2147483648 ≤ bfC C i ∧ bfC C i < 2147483648 := by unfold bfC; split; (have := hC (i - 1) (by omega) (by omega); omega); omega
        have hm := mS_r C h0
        refine z_aload_n (pc := 12) hX 0 rfl rfl dX4_errorIndex_12 ?_
        refine z_get (pc := 13) hX (T := TX4) (C := RX4) (N := 2) (i := 9) (ref := "SignLetters$Text") (name := "codes") (desc := "[I") hX4_errorIndex_X4 0 rfl rfl 0 (by decide) kX4_errorIndex_f9 ⟨rfl, rfl, rfl⟩ (v := .ref tc) rfl dX4_errorIndex_13 ?_
        refine z_iload_n (pc := 16) hX 2 rfl rfl dX4_errorIndex_16 ?_
        refine z_callSN_i (pc := 17) (As := [.ref tc, .int (iI (i))]) (rest := []) (wc := [(tc, zI G 60 (C))]) (wr := [(t, .inr (4, [.ref tc, .int (iI (len))]))]) hX (mX5_valueAt G (tc) (60) (C) (i) (by first | assumption | omega | (clear ex hX ih_4; grind [uZ])) (by first | assumption | omega | (clear ex hX ih_4; grind [uZ]))) rfl rfl rfl gX4_errorIndex_X5_valueAt_n19 hdX5_valueAt (by decide +kernel) kX4_errorIndex_inX5 kX4_errorIndex_stX5_valueAt ⟨Nat.le_of_ble_eq_true rfl, Nat.le_of_ble_eq_true rfl⟩ [1] [0] rfl rfl (by decide) (by decide) (by decide) rfl (Nat.le_of_ble_eq_true rfl) ⟨Nat.le_of_ble_eq_true rfl, Nat.le_of_ble_eq_true rfl⟩ dX4_errorIndex_17 (fun r_2 u_2 h_2 => ?_)
        subst h_2
        show Z G X 5 (0) (0) [(t, .inr (4, [.ref tc, .int (iI (len))])), (tc, zI G 60 (C))] 20 [(0, .ref t), (1, .int (iI (mS C i))), (2, .int (iI (i)))] [.int (iI (C i))]
        refine z_istore_n (pc := 20) hX (loc' := [(3, .int (iI (C i))), (0, .ref t), (1, .int (iI (mS C i))), (2, .int (iI (i)))]) rfl (by decide) rfl dX4_errorIndex_20 ?_
        have cut_41 : Z G X 5 (0) (0) [(t, .inr (4, [.ref tc, .int (iI (len))])), (tc, zI G 60 (C))] 41 [(0, .ref t), (1, .int (iI (mS C i))), (2, .int (iI (i))), (3, .int (iI (C i))), (4, .int (iI (bfC C i)))] [] := by
          refine z_iload_n (pc := 41) hX 3 rfl rfl dX4_errorIndex_41 ?_
          refine z_callS_i (pc := 42) (As := [.int (iI (C i))]) (rest := []) (wc := []) (wr := [(t, .inr (4, [.ref tc, .int (iI (len))])), (tc, zI G 60 (C))]) hX (mX4_isItem G (C i) (by first | assumption | omega | (clear ex hX ih_4; grind [uZ]))) rfl rfl rfl gX4_errorIndex_X4_isItem hdX4_isItem ⟨Nat.le_of_ble_eq_true rfl, Nat.le_of_ble_eq_true rfl⟩ [] [0, 1] rfl rfl (by decide) (by decide) (by decide) rfl (Nat.le_of_ble_eq_true rfl) ⟨Nat.le_of_ble_eq_true rfl, Nat.le_of_ble_eq_true rfl⟩ dX4_errorIndex_42 (fun r_3 u_3 h_3 => ?_)
          subst h_3
          show Z G X 5 (0) (0) [(t, .inr (4, [.ref tc, .int (iI (len))])), (tc, zI G 60 (C))] 45 [(0, .ref t), (1, .int (iI (mS C i))), (2, .int (iI (i))), (3, .int (iI (C i))), (4, .int (iI (bfC C i)))] [.int (iI (bI (isT (C i) = true)))]
          refine z_bif_eq (pc := 45) (tgt := 68) hX (by decide) dX4_errorIndex_45 (fun c_4 => ?_) (fun c_4 => ?_)
          · refine z_iload_n (pc := 68) hX 3 rfl rfl dX4_errorIndex_68 ?_
            refine z_callS_i (pc := 69) (As := [.int (iI (C i))]) (rest := []) (wc := []) (wr := [(t, .inr (4, [.ref tc, .int (iI (len))])), (tc, zI G 60 (C))]) hX (mX4_isKernSign G (C i) (by first | assumption | omega | (clear ex hX ih_4; grind [uZ]))) rfl rfl rfl gX4_errorIndex_X4_isKernSign hdX4_isKernSign ⟨Nat.le_of_ble_eq_true rfl, Nat.le_of_ble_eq_true rfl⟩ [] [0, 1] rfl rfl (by decide) (by decide) (by decide) rfl (Nat.le_of_ble_eq_true rfl) ⟨Nat.le_of_ble_eq_true rfl, Nat.le_of_ble_eq_true rfl⟩ dX4_errorIndex_69 (fun r_5 u_5 h_5 => ?_)
            subst h_5
            show Z G X 5 (0) (0) [(t, .inr (4, [.ref tc, .int (iI (len))])), (tc, zI G 60 (C))] 72 [(0, .ref t), (1, .int (iI (mS C i))), (2, .int (iI (i))), (3, .int (iI (C i))), (4, .int (iI (bfC C i)))] [.int (iI (bI (isK (C i) = true)))]
            refine z_bif_eq (pc := 72) (tgt := 83) hX (by decide) dX4_errorIndex_72 (fun c_6 => ?_) (fun c_6 => ?_)
            · refine z_iload_n (pc := 83) hX 3 rfl rfl dX4_errorIndex_83 ?_
              refine z_callS_i (pc := 84) (As := [.int (iI (C i))]) (rest := []) (wc := []) (wr := [(t, .inr (4, [.ref tc, .int (iI (len))])), (tc, zI G 60 (C))]) hX (mX4_isFigure G (C i) (by first | assumption | omega | (clear ex hX ih_4; grind [uZ]))) rfl rfl rfl gX4_errorIndex_X4_isFigure hdX4_isFigure ⟨Nat.le_of_ble_eq_true rfl, Nat.le_of_ble_eq_true rfl⟩ [] [0, 1] rfl rfl (by decide) (by decide) (by decide) rfl (Nat.le_of_ble_eq_true rfl) ⟨Nat.le_of_ble_eq_true rfl, Nat.le_of_ble_eq_true rfl⟩ dX4_errorIndex_84 (fun r_7 u_7 h_7 => ?_)
              subst h_7
              show Z G X 5 (0) (0) [(t, .inr (4, [.ref tc, .int (iI (len))])), (tc, zI G 60 (C))] 87 [(0, .ref t), (1, .int (iI (mS C i))), (2, .int (iI (i))), (3, .int (iI (C i))), (4, .int (iI (bfC C i)))] [.int (iI (bI (isF (C i) = true)))]
              refine z_bif_eq (pc := 87) (tgt := 98) hX (by decide) dX4_errorIndex_87 (fun c_8 => ?_) (fun c_8 => ?_)
              · refine z_iload_n (pc := 98) hX 2 rfl rfl dX4_errorIndex_98 ?_
                exact ex _ _ _ () _ dX4_errorIndex_99 rfl (congrArg iI (show (i : Int) = erS C len from by rw [hr, fiS_s _ (by omega), if_pos (by rw [bdC_t, itC_t]; clear ex hX ih_4; grind)])) rfl
              · refine z_iload (pc := 90) hX 4 rfl dX4_errorIndex_90 ?_
                refine z_callS_i (pc := 92) (As := [.int (iI (bfC C i))]) (rest := []) (wc := []) (wr := [(t, .inr (4, [.ref tc, .int (iI (len))])), (tc, zI G 60 (C))]) hX (mX4_isKernSign G (bfC C i) (by first | assumption | omega | (clear ex hX ih_4; grind [uZ]))) rfl rfl rfl gX4_errorIndex_X4_isKernSign hdX4_isKernSign ⟨Nat.le_of_ble_eq_true rfl, Nat.le_of_ble_eq_true rfl⟩ [] [0, 1] rfl rfl (by decide) (by decide) (by decide) rfl (Nat.le_of_ble_eq_true rfl) ⟨Nat.le_of_ble_eq_true rfl, Nat.le_of_ble_eq_true rfl⟩ dX4_errorIndex_92 (fun r_9 u_9 h_9 => ?_)
                subst h_9
                show Z G X 5 (0) (0) [(t, .inr (4, [.ref tc, .int (iI (len))])), (tc, zI G 60 (C))] 95 [(0, .ref t), (1, .int (iI (mS C i))), (2, .int (iI (i))), (3, .int (iI (C i))), (4, .int (iI (bfC C i)))] [.int (iI (bI (isK (bfC C i) = true)))]
                refine z_bif_ne (pc := 95) (tgt := 100) hX (by decide) dX4_errorIndex_95 (fun c_10 => ?_) (fun c_10 => ?_)
                · refine z_iinc (pc := 100) hX (loc' := [(2, .int (iI (i + 1))), (0, .ref t), (1, .int (iI (mS C i))), (3, .int (iI (C i))), (4, .int (iI (bfC C i)))]) 2 rfl (by decide) rfl dX4_errorIndex_100 ?_
                  refine z_goto (pc := 103) (tgt := 4) hX (by decide) dX4_errorIndex_103 ?_
                  refine (congrArg (fun z_ : Int => Z G X 5 (0) (0) [(t, .inr (4, [.ref tc, .int (iI (len))])), (tc, zI G 60 (C))] 4 [(2, .int (iI (i + 1))), (0, .ref t), (1, .int (iI (z_))), (3, .int (iI (C i))), (4, .int (iI (bfC C i)))] []) (show (mS C i : Int) = mS C (i + 1) from by first | rfl | (rw [mS_s _ h0, if_pos (by rw [itC_t]; clear ex hX ih_4; grind)]; done) | (rw [mS_s _ h0, if_neg (by rw [itC_t]; clear ex hX ih_4; grind)]; done) | (exfalso; simp only [isT_t, isF_t, isK_t, isL_t] at *; omega))).mpr ?_
                  refine z_at [1, 2, 0] [0, 1] (loc' := [(0, .ref t), (1, .int (iI (mS C (i + 1)))), (2, .int (iI ((i + 1))))]) (WS' := [(t, .inr (4, [.ref tc, .int (iI (len))])), (tc, zI G 60 (C))]) rfl (by decide) rfl ?_
                  exact ih_4 (i + 1) (by first | assumption | omega | (clear ex hX ih_4; grind [uZ])) (by first | assumption | omega | (clear ex hX ih_4; grind [uZ])) (by first | (rw [hr, fiS_s _ (by omega), if_neg (by assumption)]) | (rw [hr, fiS_s _ (by omega), if_neg (by rw [bdC_t, itC_t]; clear ex hX ih_4; grind)])) (by omega)
                · refine z_iload_n (pc := 98) hX 2 rfl rfl dX4_errorIndex_98 ?_
                  exact ex _ _ _ () _ dX4_errorIndex_99 rfl (congrArg iI (show (i : Int) = erS C len from by rw [hr, fiS_s _ (by omega), if_pos (by rw [bdC_t, itC_t]; clear ex hX ih_4; grind)])) rfl
            · refine z_iload (pc := 75) hX 4 rfl dX4_errorIndex_75 ?_
              refine z_callS_i (pc := 77) (As := [.int (iI (bfC C i))]) (rest := []) (wc := []) (wr := [(t, .inr (4, [.ref tc, .int (iI (len))])), (tc, zI G 60 (C))]) hX (mX4_isLetterCode G (bfC C i) (by first | assumption | omega | (clear ex hX ih_4; grind [uZ]))) rfl rfl rfl gX4_errorIndex_X4_isLetterCode hdX4_isLetterCode ⟨Nat.le_of_ble_eq_true rfl, Nat.le_of_ble_eq_true rfl⟩ [] [0, 1] rfl rfl (by decide) (by decide) (by decide) rfl (Nat.le_of_ble_eq_true rfl) ⟨Nat.le_of_ble_eq_true rfl, Nat.le_of_ble_eq_true rfl⟩ dX4_errorIndex_77 (fun r_11 u_11 h_11 => ?_)
              subst h_11
              show Z G X 5 (0) (0) [(t, .inr (4, [.ref tc, .int (iI (len))])), (tc, zI G 60 (C))] 80 [(0, .ref t), (1, .int (iI (mS C i))), (2, .int (iI (i))), (3, .int (iI (C i))), (4, .int (iI (bfC C i)))] [.int (iI (bI (isL (bfC C i) = true)))]
              refine z_bif_ne (pc := 80) (tgt := 100) hX (by decide) dX4_errorIndex_80 (fun c_12 => ?_) (fun c_12 => ?_)
              · refine z_iinc (pc := 100) hX (loc' := [(2, .int (iI (i + 1))), (0, .ref t), (1, .int (iI (mS C i))), (3, .int (iI (C i))), (4, .int (iI (bfC C i)))]) 2 rfl (by decide) rfl dX4_errorIndex_100 ?_
                refine z_goto (pc := 103) (tgt := 4) hX (by decide) dX4_errorIndex_103 ?_
                refine (congrArg (fun z_ : Int => Z G X 5 (0) (0) [(t, .inr (4, [.ref tc, .int (iI (len))])), (tc, zI G 60 (C))] 4 [(2, .int (iI (i + 1))), (0, .ref t), (1, .int (iI (z_))), (3, .int (iI (C i))), (4, .int (iI (bfC C i)))] []) (show (mS C i : Int) = mS C (i + 1) from by first | rfl | (rw [mS_s _ h0, if_pos (by rw [itC_t]; clear ex hX ih_4; grind)]; done) | (rw [mS_s _ h0, if_neg (by rw [itC_t]; clear ex hX ih_4; grind)]; done) | (exfalso; simp only [isT_t, isF_t, isK_t, isL_t] at *; omega))).mpr ?_
                refine z_at [1, 2, 0] [0, 1] (loc' := [(0, .ref t), (1, .int (iI (mS C (i + 1)))), (2, .int (iI ((i + 1))))]) (WS' := [(t, .inr (4, [.ref tc, .int (iI (len))])), (tc, zI G 60 (C))]) rfl (by decide) rfl ?_
                exact ih_4 (i + 1) (by first | assumption | omega | (clear ex hX ih_4; grind [uZ])) (by first | assumption | omega | (clear ex hX ih_4; grind [uZ])) (by first | (rw [hr, fiS_s _ (by omega), if_neg (by assumption)]) | (rw [hr, fiS_s _ (by omega), if_neg (by rw [bdC_t, itC_t]; clear ex hX ih_4; grind)])) (by omega)
              · refine z_iload_n (pc := 83) hX 3 rfl rfl dX4_errorIndex_83 ?_
                refine z_callS_i (pc := 84) (As := [.int (iI (C i))]) (rest := []) (wc := []) (wr := [(t, .inr (4, [.ref tc, .int (iI (len))])), (tc, zI G 60 (C))]) hX (mX4_isFigure G (C i) (by first | assumption | omega | (clear ex hX ih_4; grind [uZ]))) rfl rfl rfl gX4_errorIndex_X4_isFigure hdX4_isFigure ⟨Nat.le_of_ble_eq_true rfl, Nat.le_of_ble_eq_true rfl⟩ [] [0, 1] rfl rfl (by decide) (by decide) (by decide) rfl (Nat.le_of_ble_eq_true rfl) ⟨Nat.le_of_ble_eq_true rfl, Nat.le_of_ble_eq_true rfl⟩ dX4_errorIndex_84 (fun r_13 u_13 h_13 => ?_)
                subst h_13
                show Z G X 5 (0) (0) [(t, .inr (4, [.ref tc, .int (iI (len))])), (tc, zI G 60 (C))] 87 [(0, .ref t), (1, .int (iI (mS C i))), (2, .int (iI (i))), (3, .int (iI (C i))), (4, .int (iI (bfC C i)))] [.int (iI (bI (isF (C i) = true)))]
                refine z_bif_eq (pc := 87) (tgt := 98) hX (by decide) dX4_errorIndex_87 (fun c_14 => ?_) (fun c_14 => ?_)
                · refine z_iload_n (pc := 98) hX 2 rfl rfl dX4_errorIndex_98 ?_
                  exact ex _ _ _ () _ dX4_errorIndex_99 rfl (congrArg iI (show (i : Int) = erS C len from by rw [hr, fiS_s _ (by omega), if_pos (by rw [bdC_t, itC_t]; clear ex hX ih_4; grind)])) rfl
                · refine z_iload (pc := 90) hX 4 rfl dX4_errorIndex_90 ?_
                  refine z_callS_i (pc := 92) (As := [.int (iI (bfC C i))]) (rest := []) (wc := []) (wr := [(t, .inr (4, [.ref tc, .int (iI (len))])), (tc, zI G 60 (C))]) hX (mX4_isKernSign G (bfC C i) (by first | assumption | omega | (clear ex hX ih_4; grind [uZ]))) rfl rfl rfl gX4_errorIndex_X4_isKernSign hdX4_isKernSign ⟨Nat.le_of_ble_eq_true rfl, Nat.le_of_ble_eq_true rfl⟩ [] [0, 1] rfl rfl (by decide) (by decide) (by decide) rfl (Nat.le_of_ble_eq_true rfl) ⟨Nat.le_of_ble_eq_true rfl, Nat.le_of_ble_eq_true rfl⟩ dX4_errorIndex_92 (fun r_15 u_15 h_15 => ?_)
                  subst h_15
                  show Z G X 5 (0) (0) [(t, .inr (4, [.ref tc, .int (iI (len))])), (tc, zI G 60 (C))] 95 [(0, .ref t), (1, .int (iI (mS C i))), (2, .int (iI (i))), (3, .int (iI (C i))), (4, .int (iI (bfC C i)))] [.int (iI (bI (isK (bfC C i) = true)))]
                  refine z_bif_ne (pc := 95) (tgt := 100) hX (by decide) dX4_errorIndex_95 (fun c_16 => ?_) (fun c_16 => ?_)
                  · refine z_iinc (pc := 100) hX (loc' := [(2, .int (iI (i + 1))), (0, .ref t), (1, .int (iI (mS C i))), (3, .int (iI (C i))), (4, .int (iI (bfC C i)))]) 2 rfl (by decide) rfl dX4_errorIndex_100 ?_
                    refine z_goto (pc := 103) (tgt := 4) hX (by decide) dX4_errorIndex_103 ?_
                    refine (congrArg (fun z_ : Int => Z G X 5 (0) (0) [(t, .inr (4, [.ref tc, .int (iI (len))])), (tc, zI G 60 (C))] 4 [(2, .int (iI (i + 1))), (0, .ref t), (1, .int (iI (z_))), (3, .int (iI (C i))), (4, .int (iI (bfC C i)))] []) (show (mS C i : Int) = mS C (i + 1) from by first | rfl | (rw [mS_s _ h0, if_pos (by rw [itC_t]; clear ex hX ih_4; grind)]; done) | (rw [mS_s _ h0, if_neg (by rw [itC_t]; clear ex hX ih_4; grind)]; done) | (exfalso; simp only [isT_t, isF_t, isK_t, isL_t] at *; omega))).mpr ?_
                    refine z_at [1, 2, 0] [0, 1] (loc' := [(0, .ref t), (1, .int (iI (mS C (i + 1)))), (2, .int (iI ((i + 1))))]) (WS' := [(t, .inr (4, [.ref tc, .int (iI (len))])), (tc, zI G 60 (C))]) rfl (by decide) rfl ?_
                    exact ih_4 (i + 1) (by first | assumption | omega | (clear ex hX ih_4; grind [uZ])) (by first | assumption | omega | (clear ex hX ih_4; grind [uZ])) (by first | (rw [hr, fiS_s _ (by omega), if_neg (by assumption)]) | (rw [hr, fiS_s _ (by omega), if_neg (by rw [bdC_t, itC_t]; clear ex hX ih_4; grind)])) (by omega)
                  · refine z_iload_n (pc := 98) hX 2 rfl rfl dX4_errorIndex_98 ?_
                    exact ex _ _ _ () _ dX4_errorIndex_99 rfl (congrArg iI (show (i : Int) = erS C len from by rw [hr, fiS_s _ (by omega), if_pos (by rw [bdC_t, itC_t]; clear ex hX ih_4; grind)])) rfl
          · refine z_iload (pc := 48) hX 4 rfl dX4_errorIndex_48 ?_
            refine z_callS_i (pc := 50) (As := [.int (iI (bfC C i))]) (rest := []) (wc := []) (wr := [(t, .inr (4, [.ref tc, .int (iI (len))])), (tc, zI G 60 (C))]) hX (mX4_isKernSign G (bfC C i) (by first | assumption | omega | (clear ex hX ih_4; grind [uZ]))) rfl rfl rfl gX4_errorIndex_X4_isKernSign hdX4_isKernSign ⟨Nat.le_of_ble_eq_true rfl, Nat.le_of_ble_eq_true rfl⟩ [] [0, 1] rfl rfl (by decide) (by decide) (by decide) rfl (Nat.le_of_ble_eq_true rfl) ⟨Nat.le_of_ble_eq_true rfl, Nat.le_of_ble_eq_true rfl⟩ dX4_errorIndex_50 (fun r_17 u_17 h_17 => ?_)
            subst h_17
            show Z G X 5 (0) (0) [(t, .inr (4, [.ref tc, .int (iI (len))])), (tc, zI G 60 (C))] 53 [(0, .ref t), (1, .int (iI (mS C i))), (2, .int (iI (i))), (3, .int (iI (C i))), (4, .int (iI (bfC C i)))] [.int (iI (bI (isK (bfC C i) = true)))]
            refine z_bif_ne (pc := 53) (tgt := 68) hX (by decide) dX4_errorIndex_53 (fun c_18 => ?_) (fun c_18 => ?_)
            · refine z_iload_n (pc := 68) hX 3 rfl rfl dX4_errorIndex_68 ?_
              refine z_callS_i (pc := 69) (As := [.int (iI (C i))]) (rest := []) (wc := []) (wr := [(t, .inr (4, [.ref tc, .int (iI (len))])), (tc, zI G 60 (C))]) hX (mX4_isKernSign G (C i) (by first | assumption | omega | (clear ex hX ih_4; grind [uZ]))) rfl rfl rfl gX4_errorIndex_X4_isKernSign hdX4_isKernSign ⟨Nat.le_of_ble_eq_true rfl, Nat.le_of_ble_eq_true rfl⟩ [] [0, 1] rfl rfl (by decide) (by decide) (by decide) rfl (Nat.le_of_ble_eq_true rfl) ⟨Nat.le_of_ble_eq_true rfl, Nat.le_of_ble_eq_true rfl⟩ dX4_errorIndex_69 (fun r_19 u_19 h_19 => ?_)
              subst h_19
              show Z G X 5 (0) (0) [(t, .inr (4, [.ref tc, .int (iI (len))])), (tc, zI G 60 (C))] 72 [(0, .ref t), (1, .int (iI (mS C i))), (2, .int (iI (i))), (3, .int (iI (C i))), (4, .int (iI (bfC C i)))] [.int (iI (bI (isK (C i) = true)))]
              refine z_bif_eq (pc := 72) (tgt := 83) hX (by decide) dX4_errorIndex_72 (fun c_20 => ?_) (fun c_20 => ?_)
              · refine z_iload_n (pc := 83) hX 3 rfl rfl dX4_errorIndex_83 ?_
                refine z_callS_i (pc := 84) (As := [.int (iI (C i))]) (rest := []) (wc := []) (wr := [(t, .inr (4, [.ref tc, .int (iI (len))])), (tc, zI G 60 (C))]) hX (mX4_isFigure G (C i) (by first | assumption | omega | (clear ex hX ih_4; grind [uZ]))) rfl rfl rfl gX4_errorIndex_X4_isFigure hdX4_isFigure ⟨Nat.le_of_ble_eq_true rfl, Nat.le_of_ble_eq_true rfl⟩ [] [0, 1] rfl rfl (by decide) (by decide) (by decide) rfl (Nat.le_of_ble_eq_true rfl) ⟨Nat.le_of_ble_eq_true rfl, Nat.le_of_ble_eq_true rfl⟩ dX4_errorIndex_84 (fun r_21 u_21 h_21 => ?_)
                subst h_21
                show Z G X 5 (0) (0) [(t, .inr (4, [.ref tc, .int (iI (len))])), (tc, zI G 60 (C))] 87 [(0, .ref t), (1, .int (iI (mS C i))), (2, .int (iI (i))), (3, .int (iI (C i))), (4, .int (iI (bfC C i)))] [.int (iI (bI (isF (C i) = true)))]
                refine z_bif_eq (pc := 87) (tgt := 98) hX (by decide) dX4_errorIndex_87 (fun c_22 => ?_) (fun c_22 => ?_)
                · refine z_iload_n (pc := 98) hX 2 rfl rfl dX4_errorIndex_98 ?_
                  exact ex _ _ _ () _ dX4_errorIndex_99 rfl (congrArg iI (show (i : Int) = erS C len from by rw [hr, fiS_s _ (by omega), if_pos (by rw [bdC_t, itC_t]; clear ex hX ih_4; grind)])) rfl
                · refine z_iload (pc := 90) hX 4 rfl dX4_errorIndex_90 ?_
                  refine z_callS_i (pc := 92) (As := [.int (iI (bfC C i))]) (rest := []) (wc := []) (wr := [(t, .inr (4, [.ref tc, .int (iI (len))])), (tc, zI G 60 (C))]) hX (mX4_isKernSign G (bfC C i) (by first | assumption | omega | (clear ex hX ih_4; grind [uZ]))) rfl rfl rfl gX4_errorIndex_X4_isKernSign hdX4_isKernSign ⟨Nat.le_of_ble_eq_true rfl, Nat.le_of_ble_eq_true rfl⟩ [] [0, 1] rfl rfl (by decide) (by decide) (by decide) rfl (Nat.le_of_ble_eq_true rfl) ⟨Nat.le_of_ble_eq_true rfl, Nat.le_of_ble_eq_true rfl⟩ dX4_errorIndex_92 (fun r_23 u_23 h_23 => ?_)
                  subst h_23
                  show Z G X 5 (0) (0) [(t, .inr (4, [.ref tc, .int (iI (len))])), (tc, zI G 60 (C))] 95 [(0, .ref t), (1, .int (iI (mS C i))), (2, .int (iI (i))), (3, .int (iI (C i))), (4, .int (iI (bfC C i)))] [.int (iI (bI (isK (bfC C i) = true)))]
                  refine z_bif_ne (pc := 95) (tgt := 100) hX (by decide) dX4_errorIndex_95 (fun c_24 => ?_) (fun c_24 => ?_)
                  · refine z_iinc (pc := 100) hX (loc' := [(2, .int (iI (i + 1))), (0, .ref t), (1, .int (iI (mS C i))), (3, .int (iI (C i))), (4, .int (iI (bfC C i)))]) 2 rfl (by decide) rfl dX4_errorIndex_100 ?_
                    refine z_goto (pc := 103) (tgt := 4) hX (by decide) dX4_errorIndex_103 ?_
                    refine (congrArg (fun z_ : Int => Z G X 5 (0) (0) [(t, .inr (4, [.ref tc, .int (iI (len))])), (tc, zI G 60 (C))] 4 [(2, .int (iI (i + 1))), (0, .ref t), (1, .int (iI (z_))), (3, .int (iI (C i))), (4, .int (iI (bfC C i)))] []) (show (mS C i : Int) = mS C (i + 1) from by first | rfl | (rw [mS_s _ h0, if_pos (by rw [itC_t]; clear ex hX ih_4; grind)]; done) | (rw [mS_s _ h0, if_neg (by rw [itC_t]; clear ex hX ih_4; grind)]; done) | (exfalso; simp only [isT_t, isF_t, isK_t, isL_t] at *; omega))).mpr ?_
                    refine z_at [1, 2, 0] [0, 1] (loc' := [(0, .ref t), (1, .int (iI (mS C (i + 1)))), (2, .int (iI ((i + 1))))]) (WS' := [(t, .inr (4, [.ref tc, .int (iI (len))])), (tc, zI G 60 (C))]) rfl (by decide) rfl ?_
                    exact ih_4 (i + 1) (by first | assumption | omega | (clear ex hX ih_4; grind [uZ])) (by first | assumption | omega | (clear ex hX ih_4; grind [uZ])) (by first | (rw [hr, fiS_s _ (by omega), if_neg (by assumption)]) | (rw [hr, fiS_s _ (by omega), if_neg (by rw [bdC_t, itC_t]; clear ex hX ih_4; grind)])) (by omega)
                  · refine z_iload_n (pc := 98) hX 2 rfl rfl dX4_errorIndex_98 ?_
                    exact ex _ _ _ () _ dX4_errorIndex_99 rfl (congrArg iI (show (i : Int) = erS C len from by rw [hr, fiS_s _ (by omega), if_pos (by rw [bdC_t, itC_t]; clear ex hX ih_4; grind)])) rfl
              · refine z_iload (pc := 75) hX 4 rfl dX4_errorIndex_75 ?_
                refine z_callS_i (pc := 77) (As := [.int (iI (bfC C i))]) (rest := []) (wc := []) (wr := [(t, .inr (4, [.ref tc, .int (iI (len))])), (tc, zI G 60 (C))]) hX (mX4_isLetterCode G (bfC C i) (by first | assumption | omega | (clear ex hX ih_4; grind [uZ]))) rfl rfl rfl gX4_errorIndex_X4_isLetterCode hdX4_isLetterCode ⟨Nat.le_of_ble_eq_true rfl, Nat.le_of_ble_eq_true rfl⟩ [] [0, 1] rfl rfl (by decide) (by decide) (by decide) rfl (Nat.le_of_ble_eq_true rfl) ⟨Nat.le_of_ble_eq_true rfl, Nat.le_of_ble_eq_true rfl⟩ dX4_errorIndex_77 (fun r_25 u_25 h_25 => ?_)
                subst h_25
                show Z G X 5 (0) (0) [(t, .inr (4, [.ref tc, .int (iI (len))])), (tc, zI G 60 (C))] 80 [(0, .ref t), (1, .int (iI (mS C i))), (2, .int (iI (i))), (3, .int (iI (C i))), (4, .int (iI (bfC C i)))] [.int (iI (bI (isL (bfC C i) = true)))]
                refine z_bif_ne (pc := 80) (tgt := 100) hX (by decide) dX4_errorIndex_80 (fun c_26 => ?_) (fun c_26 => ?_)
                · refine z_iinc (pc := 100) hX (loc' := [(2, .int (iI (i + 1))), (0, .ref t), (1, .int (iI (mS C i))), (3, .int (iI (C i))), (4, .int (iI (bfC C i)))]) 2 rfl (by decide) rfl dX4_errorIndex_100 ?_
                  refine z_goto (pc := 103) (tgt := 4) hX (by decide) dX4_errorIndex_103 ?_
                  refine (congrArg (fun z_ : Int => Z G X 5 (0) (0) [(t, .inr (4, [.ref tc, .int (iI (len))])), (tc, zI G 60 (C))] 4 [(2, .int (iI (i + 1))), (0, .ref t), (1, .int (iI (z_))), (3, .int (iI (C i))), (4, .int (iI (bfC C i)))] []) (show (mS C i : Int) = mS C (i + 1) from by first | rfl | (rw [mS_s _ h0, if_pos (by rw [itC_t]; clear ex hX ih_4; grind)]; done) | (rw [mS_s _ h0, if_neg (by rw [itC_t]; clear ex hX ih_4; grind)]; done) | (exfalso; simp only [isT_t, isF_t, isK_t, isL_t] at *; omega))).mpr ?_
                  refine z_at [1, 2, 0] [0, 1] (loc' := [(0, .ref t), (1, .int (iI (mS C (i + 1)))), (2, .int (iI ((i + 1))))]) (WS' := [(t, .inr (4, [.ref tc, .int (iI (len))])), (tc, zI G 60 (C))]) rfl (by decide) rfl ?_
                  exact ih_4 (i + 1) (by first | assumption | omega | (clear ex hX ih_4; grind [uZ])) (by first | assumption | omega | (clear ex hX ih_4; grind [uZ])) (by first | (rw [hr, fiS_s _ (by omega), if_neg (by assumption)]) | (rw [hr, fiS_s _ (by omega), if_neg (by rw [bdC_t, itC_t]; clear ex hX ih_4; grind)])) (by omega)
                · refine z_iload_n (pc := 83) hX 3 rfl rfl dX4_errorIndex_83 ?_
                  refine z_callS_i (pc := 84) (As := [.int (iI (C i))]) (rest := []) (wc := []) (wr := [(t, .inr (4, [.ref tc, .int (iI (len))])), (tc, zI G 60 (C))]) hX (mX4_isFigure G (C i) (by first | assumption | omega | (clear ex hX ih_4; grind [uZ]))) rfl rfl rfl gX4_errorIndex_X4_isFigure hdX4_isFigure ⟨Nat.le_of_ble_eq_true rfl, Nat.le_of_ble_eq_true rfl⟩ [] [0, 1] rfl rfl (by decide) (by decide) (by decide) rfl (Nat.le_of_ble_eq_true rfl) ⟨Nat.le_of_ble_eq_true rfl, Nat.le_of_ble_eq_true rfl⟩ dX4_errorIndex_84 (fun r_27 u_27 h_27 => ?_)
                  subst h_27
                  show Z G X 5 (0) (0) [(t, .inr (4, [.ref tc, .int (iI (len))])), (tc, zI G 60 (C))] 87 [(0, .ref t), (1, .int (iI (mS C i))), (2, .int (iI (i))), (3, .int (iI (C i))), (4, .int (iI (bfC C i)))] [.int (iI (bI (isF (C i) = true)))]
                  refine z_bif_eq (pc := 87) (tgt := 98) hX (by decide) dX4_errorIndex_87 (fun c_28 => ?_) (fun c_28 => ?_)
                  · refine z_iload_n (pc := 98) hX 2 rfl rfl dX4_errorIndex_98 ?_
                    exact ex _ _ _ () _ dX4_errorIndex_99 rfl (congrArg iI (show (i : Int) = erS C len from by rw [hr, fiS_s _ (by omega), if_pos (by rw [bdC_t, itC_t]; clear ex hX ih_4; grind)])) rfl
                  · refine z_iload (pc := 90) hX 4 rfl dX4_errorIndex_90 ?_
                    refine z_callS_i (pc := 92) (As := [.int (iI (bfC C i))]) (rest := []) (wc := []) (wr := [(t, .inr (4, [.ref tc, .int (iI (len))])), (tc, zI G 60 (C))]) hX (mX4_isKernSign G (bfC C i) (by first | assumption | omega | (clear ex hX ih_4; grind [uZ]))) rfl rfl rfl gX4_errorIndex_X4_isKernSign hdX4_isKernSign ⟨Nat.le_of_ble_eq_true rfl, Nat.le_of_ble_eq_true rfl⟩ [] [0, 1] rfl rfl (by decide) (by decide) (by decide) rfl (Nat.le_of_ble_eq_true rfl) ⟨Nat.le_of_ble_eq_true rfl, Nat.le_of_ble_eq_true rfl⟩ dX4_errorIndex_92 (fun r_29 u_29 h_29 => ?_)
                    subst h_29
                    show Z G X 5 (0) (0) [(t, .inr (4, [.ref tc, .int (iI (len))])), (tc, zI G 60 (C))] 95 [(0, .ref t), (1, .int (iI (mS C i))), (2, .int (iI (i))), (3, .int (iI (C i))), (4, .int (iI (bfC C i)))] [.int (iI (bI (isK (bfC C i) = true)))]
                    refine z_bif_ne (pc := 95) (tgt := 100) hX (by decide) dX4_errorIndex_95 (fun c_30 => ?_) (fun c_30 => ?_)
                    · refine z_iinc (pc := 100) hX (loc' := [(2, .int (iI (i + 1))), (0, .ref t), (1, .int (iI (mS C i))), (3, .int (iI (C i))), (4, .int (iI (bfC C i)))]) 2 rfl (by decide) rfl dX4_errorIndex_100 ?_
                      refine z_goto (pc := 103) (tgt := 4) hX (by decide) dX4_errorIndex_103 ?_
                      refine (congrArg (fun z_ : Int => Z G X 5 (0) (0) [(t, .inr (4, [.ref tc, .int (iI (len))])), (tc, zI G 60 (C))] 4 [(2, .int (iI (i + 1))), (0, .ref t), (1, .int (iI (z_))), (3, .int (iI (C i))), (4, .int (iI (bfC C i)))] []) (show (mS C i : Int) = mS C (i + 1) from by first | rfl | (rw [mS_s _ h0, if_pos (by rw [itC_t]; clear ex hX ih_4; grind)]; done) | (rw [mS_s _ h0, if_neg (by rw [itC_t]; clear ex hX ih_4; grind)]; done) | (exfalso; simp only [isT_t, isF_t, isK_t, isL_t] at *; omega))).mpr ?_
                      refine z_at [1, 2, 0] [0, 1] (loc' := [(0, .ref t), (1, .int (iI (mS C (i + 1)))), (2, .int (iI ((i + 1))))]) (WS' := [(t, .inr (4, [.ref tc, .int (iI (len))])), (tc, zI G 60 (C))]) rfl (by decide) rfl ?_
                      exact ih_4 (i + 1) (by first | assumption | omega | (clear ex hX ih_4; grind [uZ])) (by first | assumption | omega | (clear ex hX ih_4; grind [uZ])) (by first | (rw [hr, fiS_s _ (by omega), if_neg (by assumption)]) | (rw [hr, fiS_s _ (by omega), if_neg (by rw [bdC_t, itC_t]; clear ex hX ih_4; grind)])) (by omega)
                    · refine z_iload_n (pc := 98) hX 2 rfl rfl dX4_errorIndex_98 ?_
                      exact ex _ _ _ () _ dX4_errorIndex_99 rfl (congrArg iI (show (i : Int) = erS C len from by rw [hr, fiS_s _ (by omega), if_pos (by rw [bdC_t, itC_t]; clear ex hX ih_4; grind)])) rfl
            · refine z_iload_n (pc := 56) hX 1 rfl rfl dX4_errorIndex_56 ?_
              refine z_bipush (pc := 57) hX (z := 20) (by decide +kernel) dX4_errorIndex_57 ?_
              refine z_icmp_ge (pc := 59) (tgt := 68) hX (by decide) (by omega) (by omega) dX4_errorIndex_59 (fun c_31 => ?_) (fun c_31 => ?_)
              · refine z_iload_n (pc := 68) hX 3 rfl rfl dX4_errorIndex_68 ?_
                refine z_callS_i (pc := 69) (As := [.int (iI (C i))]) (rest := []) (wc := []) (wr := [(t, .inr (4, [.ref tc, .int (iI (len))])), (tc, zI G 60 (C))]) hX (mX4_isKernSign G (C i) (by first | assumption | omega | (clear ex hX ih_4; grind [uZ]))) rfl rfl rfl gX4_errorIndex_X4_isKernSign hdX4_isKernSign ⟨Nat.le_of_ble_eq_true rfl, Nat.le_of_ble_eq_true rfl⟩ [] [0, 1] rfl rfl (by decide) (by decide) (by decide) rfl (Nat.le_of_ble_eq_true rfl) ⟨Nat.le_of_ble_eq_true rfl, Nat.le_of_ble_eq_true rfl⟩ dX4_errorIndex_69 (fun r_32 u_32 h_32 => ?_)
                subst h_32
                show Z G X 5 (0) (0) [(t, .inr (4, [.ref tc, .int (iI (len))])), (tc, zI G 60 (C))] 72 [(0, .ref t), (1, .int (iI (mS C i))), (2, .int (iI (i))), (3, .int (iI (C i))), (4, .int (iI (bfC C i)))] [.int (iI (bI (isK (C i) = true)))]
                refine z_bif_eq (pc := 72) (tgt := 83) hX (by decide) dX4_errorIndex_72 (fun c_33 => ?_) (fun c_33 => ?_)
                · refine z_iload_n (pc := 83) hX 3 rfl rfl dX4_errorIndex_83 ?_
                  refine z_callS_i (pc := 84) (As := [.int (iI (C i))]) (rest := []) (wc := []) (wr := [(t, .inr (4, [.ref tc, .int (iI (len))])), (tc, zI G 60 (C))]) hX (mX4_isFigure G (C i) (by first | assumption | omega | (clear ex hX ih_4; grind [uZ]))) rfl rfl rfl gX4_errorIndex_X4_isFigure hdX4_isFigure ⟨Nat.le_of_ble_eq_true rfl, Nat.le_of_ble_eq_true rfl⟩ [] [0, 1] rfl rfl (by decide) (by decide) (by decide) rfl (Nat.le_of_ble_eq_true rfl) ⟨Nat.le_of_ble_eq_true rfl, Nat.le_of_ble_eq_true rfl⟩ dX4_errorIndex_84 (fun r_34 u_34 h_34 => ?_)
                  subst h_34
                  show Z G X 5 (0) (0) [(t, .inr (4, [.ref tc, .int (iI (len))])), (tc, zI G 60 (C))] 87 [(0, .ref t), (1, .int (iI (mS C i))), (2, .int (iI (i))), (3, .int (iI (C i))), (4, .int (iI (bfC C i)))] [.int (iI (bI (isF (C i) = true)))]
                  refine z_bif_eq (pc := 87) (tgt := 98) hX (by decide) dX4_errorIndex_87 (fun c_35 => ?_) (fun c_35 => ?_)
                  · refine z_iload_n (pc := 98) hX 2 rfl rfl dX4_errorIndex_98 ?_
                    exact ex _ _ _ () _ dX4_errorIndex_99 rfl (congrArg iI (show (i : Int) = erS C len from by rw [hr, fiS_s _ (by omega), if_pos (by rw [bdC_t, itC_t]; clear ex hX ih_4; grind)])) rfl
                  · refine z_iload (pc := 90) hX 4 rfl dX4_errorIndex_90 ?_
                    refine z_callS_i (pc := 92) (As := [.int (iI (bfC C i))]) (rest := []) (wc := []) (wr := [(t, .inr (4, [.ref tc, .int (iI (len))])), (tc, zI G 60 (C))]) hX (mX4_isKernSign G (bfC C i) (by first | assumption | omega | (clear ex hX ih_4; grind [uZ]))) rfl rfl rfl gX4_errorIndex_X4_isKernSign hdX4_isKernSign ⟨Nat.le_of_ble_eq_true rfl, Nat.le_of_ble_eq_true rfl⟩ [] [0, 1] rfl rfl (by decide) (by decide) (by decide) rfl (Nat.le_of_ble_eq_true rfl) ⟨Nat.le_of_ble_eq_true rfl, Nat.le_of_ble_eq_true rfl⟩ dX4_errorIndex_92 (fun r_36 u_36 h_36 => ?_)
                    subst h_36
                    show Z G X 5 (0) (0) [(t, .inr (4, [.ref tc, .int (iI (len))])), (tc, zI G 60 (C))] 95 [(0, .ref t), (1, .int (iI (mS C i))), (2, .int (iI (i))), (3, .int (iI (C i))), (4, .int (iI (bfC C i)))] [.int (iI (bI (isK (bfC C i) = true)))]
                    refine z_bif_ne (pc := 95) (tgt := 100) hX (by decide) dX4_errorIndex_95 (fun c_37 => ?_) (fun c_37 => ?_)
                    · refine z_iinc (pc := 100) hX (loc' := [(2, .int (iI (i + 1))), (0, .ref t), (1, .int (iI (mS C i))), (3, .int (iI (C i))), (4, .int (iI (bfC C i)))]) 2 rfl (by decide) rfl dX4_errorIndex_100 ?_
                      refine z_goto (pc := 103) (tgt := 4) hX (by decide) dX4_errorIndex_103 ?_
                      refine (congrArg (fun z_ : Int => Z G X 5 (0) (0) [(t, .inr (4, [.ref tc, .int (iI (len))])), (tc, zI G 60 (C))] 4 [(2, .int (iI (i + 1))), (0, .ref t), (1, .int (iI (z_))), (3, .int (iI (C i))), (4, .int (iI (bfC C i)))] []) (show (mS C i : Int) = mS C (i + 1) from by first | rfl | (rw [mS_s _ h0, if_pos (by rw [itC_t]; clear ex hX ih_4; grind)]; done) | (rw [mS_s _ h0, if_neg (by rw [itC_t]; clear ex hX ih_4; grind)]; done) | (exfalso; simp only [isT_t, isF_t, isK_t, isL_t] at *; omega))).mpr ?_
                      refine z_at [1, 2, 0] [0, 1] (loc' := [(0, .ref t), (1, .int (iI (mS C (i + 1)))), (2, .int (iI ((i + 1))))]) (WS' := [(t, .inr (4, [.ref tc, .int (iI (len))])), (tc, zI G 60 (C))]) rfl (by decide) rfl ?_
                      exact ih_4 (i + 1) (by first | assumption | omega | (clear ex hX ih_4; grind [uZ])) (by first | assumption | omega | (clear ex hX ih_4; grind [uZ])) (by first | (rw [hr, fiS_s _ (by omega), if_neg (by assumption)]) | (rw [hr, fiS_s _ (by omega), if_neg (by rw [bdC_t, itC_t]; clear ex hX ih_4; grind)])) (by omega)
                    · refine z_iload_n (pc := 98) hX 2 rfl rfl dX4_errorIndex_98 ?_
                      exact ex _ _ _ () _ dX4_errorIndex_99 rfl (congrArg iI (show (i : Int) = erS C len from by rw [hr, fiS_s _ (by omega), if_pos (by rw [bdC_t, itC_t]; clear ex hX ih_4; grind)])) rfl
                · refine z_iload (pc := 75) hX 4 rfl dX4_errorIndex_75 ?_
                  refine z_callS_i (pc := 77) (As := [.int (iI (bfC C i))]) (rest := []) (wc := []) (wr := [(t, .inr (4, [.ref tc, .int (iI (len))])), (tc, zI G 60 (C))]) hX (mX4_isLetterCode G (bfC C i) (by first | assumption | omega | (clear ex hX ih_4; grind [uZ]))) rfl rfl rfl gX4_errorIndex_X4_isLetterCode hdX4_isLetterCode ⟨Nat.le_of_ble_eq_true rfl, Nat.le_of_ble_eq_true rfl⟩ [] [0, 1] rfl rfl (by decide) (by decide) (by decide) rfl (Nat.le_of_ble_eq_true rfl) ⟨Nat.le_of_ble_eq_true rfl, Nat.le_of_ble_eq_true rfl⟩ dX4_errorIndex_77 (fun r_38 u_38 h_38 => ?_)
                  subst h_38
                  show Z G X 5 (0) (0) [(t, .inr (4, [.ref tc, .int (iI (len))])), (tc, zI G 60 (C))] 80 [(0, .ref t), (1, .int (iI (mS C i))), (2, .int (iI (i))), (3, .int (iI (C i))), (4, .int (iI (bfC C i)))] [.int (iI (bI (isL (bfC C i) = true)))]
                  refine z_bif_ne (pc := 80) (tgt := 100) hX (by decide) dX4_errorIndex_80 (fun c_39 => ?_) (fun c_39 => ?_)
                  · refine z_iinc (pc := 100) hX (loc' := [(2, .int (iI (i + 1))), (0, .ref t), (1, .int (iI (mS C i))), (3, .int (iI (C i))), (4, .int (iI (bfC C i)))]) 2 rfl (by decide) rfl dX4_errorIndex_100 ?_
                    refine z_goto (pc := 103) (tgt := 4) hX (by decide) dX4_errorIndex_103 ?_
                    refine (congrArg (fun z_ : Int => Z G X 5 (0) (0) [(t, .inr (4, [.ref tc, .int (iI (len))])), (tc, zI G 60 (C))] 4 [(2, .int (iI (i + 1))), (0, .ref t), (1, .int (iI (z_))), (3, .int (iI (C i))), (4, .int (iI (bfC C i)))] []) (show (mS C i : Int) = mS C (i + 1) from by first | rfl | (rw [mS_s _ h0, if_pos (by rw [itC_t]; clear ex hX ih_4; grind)]; done) | (rw [mS_s _ h0, if_neg (by rw [itC_t]; clear ex hX ih_4; grind)]; done) | (exfalso; simp only [isT_t, isF_t, isK_t, isL_t] at *; omega))).mpr ?_
                    refine z_at [1, 2, 0] [0, 1] (loc' := [(0, .ref t), (1, .int (iI (mS C (i + 1)))), (2, .int (iI ((i + 1))))]) (WS' := [(t, .inr (4, [.ref tc, .int (iI (len))])), (tc, zI G 60 (C))]) rfl (by decide) rfl ?_
                    exact ih_4 (i + 1) (by first | assumption | omega | (clear ex hX ih_4; grind [uZ])) (by first | assumption | omega | (clear ex hX ih_4; grind [uZ])) (by first | (rw [hr, fiS_s _ (by omega), if_neg (by assumption)]) | (rw [hr, fiS_s _ (by omega), if_neg (by rw [bdC_t, itC_t]; clear ex hX ih_4; grind)])) (by omega)
                  · refine z_iload_n (pc := 83) hX 3 rfl rfl dX4_errorIndex_83 ?_
                    refine z_callS_i (pc := 84) (As := [.int (iI (C i))]) (rest := []) (wc := []) (wr := [(t, .inr (4, [.ref tc, .int (iI (len))])), (tc, zI G 60 (C))]) hX (mX4_isFigure G (C i) (by first | assumption | omega | (clear ex hX ih_4; grind [uZ]))) rfl rfl rfl gX4_errorIndex_X4_isFigure hdX4_isFigure ⟨Nat.le_of_ble_eq_true rfl, Nat.le_of_ble_eq_true rfl⟩ [] [0, 1] rfl rfl (by decide) (by decide) (by decide) rfl (Nat.le_of_ble_eq_true rfl) ⟨Nat.le_of_ble_eq_true rfl, Nat.le_of_ble_eq_true rfl⟩ dX4_errorIndex_84 (fun r_40 u_40 h_40 => ?_)
                    subst h_40
                    show Z G X 5 (0) (0) [(t, .inr (4, [.ref tc, .int (iI (len))])), (tc, zI G 60 (C))] 87 [(0, .ref t), (1, .int (iI (mS C i))), (2, .int (iI (i))), (3, .int (iI (C i))), (4, .int (iI (bfC C i)))] [.int (iI (bI (isF (C i) = true)))]
                    refine z_bif_eq (pc := 87) (tgt := 98) hX (by decide) dX4_errorIndex_87 (fun c_41 => ?_) (fun c_41 => ?_)
                    · refine z_iload_n (pc := 98) hX 2 rfl rfl dX4_errorIndex_98 ?_
                      exact ex _ _ _ () _ dX4_errorIndex_99 rfl (congrArg iI (show (i : Int) = erS C len from by rw [hr, fiS_s _ (by omega), if_pos (by rw [bdC_t, itC_t]; clear ex hX ih_4; grind)])) rfl
                    · refine z_iload (pc := 90) hX 4 rfl dX4_errorIndex_90 ?_
                      refine z_callS_i (pc := 92) (As := [.int (iI (bfC C i))]) (rest := []) (wc := []) (wr := [(t, .inr (4, [.ref tc, .int (iI (len))])), (tc, zI G 60 (C))]) hX (mX4_isKernSign G (bfC C i) (by first | assumption | omega | (clear ex hX ih_4; grind [uZ]))) rfl rfl rfl gX4_errorIndex_X4_isKernSign hdX4_isKernSign ⟨Nat.le_of_ble_eq_true rfl, Nat.le_of_ble_eq_true rfl⟩ [] [0, 1] rfl rfl (by decide) (by decide) (by decide) rfl (Nat.le_of_ble_eq_true rfl) ⟨Nat.le_of_ble_eq_true rfl, Nat.le_of_ble_eq_true rfl⟩ dX4_errorIndex_92 (fun r_42 u_42 h_42 => ?_)
                      subst h_42
                      show Z G X 5 (0) (0) [(t, .inr (4, [.ref tc, .int (iI (len))])), (tc, zI G 60 (C))] 95 [(0, .ref t), (1, .int (iI (mS C i))), (2, .int (iI (i))), (3, .int (iI (C i))), (4, .int (iI (bfC C i)))] [.int (iI (bI (isK (bfC C i) = true)))]
                      refine z_bif_ne (pc := 95) (tgt := 100) hX (by decide) dX4_errorIndex_95 (fun c_43 => ?_) (fun c_43 => ?_)
                      · refine z_iinc (pc := 100) hX (loc' := [(2, .int (iI (i + 1))), (0, .ref t), (1, .int (iI (mS C i))), (3, .int (iI (C i))), (4, .int (iI (bfC C i)))]) 2 rfl (by decide) rfl dX4_errorIndex_100 ?_
                        refine z_goto (pc := 103) (tgt := 4) hX (by decide) dX4_errorIndex_103 ?_
                        refine (congrArg (fun z_ : Int => Z G X 5 (0) (0) [(t, .inr (4, [.ref tc, .int (iI (len))])), (tc, zI G 60 (C))] 4 [(2, .int (iI (i + 1))), (0, .ref t), (1, .int (iI (z_))), (3, .int (iI (C i))), (4, .int (iI (bfC C i)))] []) (show (mS C i : Int) = mS C (i + 1) from by first | rfl | (rw [mS_s _ h0, if_pos (by rw [itC_t]; clear ex hX ih_4; grind)]; done) | (rw [mS_s _ h0, if_neg (by rw [itC_t]; clear ex hX ih_4; grind)]; done) | (exfalso; simp only [isT_t, isF_t, isK_t, isL_t] at *; omega))).mpr ?_
                        refine z_at [1, 2, 0] [0, 1] (loc' := [(0, .ref t), (1, .int (iI (mS C (i + 1)))), (2, .int (iI ((i + 1))))]) (WS' := [(t, .inr (4, [.ref tc, .int (iI (len))])), (tc, zI G 60 (C))]) rfl (by decide) rfl ?_
                        exact ih_4 (i + 1) (by first | assumption | omega | (clear ex hX ih_4; grind [uZ])) (by first | assumption | omega | (clear ex hX ih_4; grind [uZ])) (by first | (rw [hr, fiS_s _ (by omega), if_neg (by assumption)]) | (rw [hr, fiS_s _ (by omega), if_neg (by rw [bdC_t, itC_t]; clear ex hX ih_4; grind)])) (by omega)
                      · refine z_iload_n (pc := 98) hX 2 rfl rfl dX4_errorIndex_98 ?_
                        exact ex _ _ _ () _ dX4_errorIndex_99 rfl (congrArg iI (show (i : Int) = erS C len from by rw [hr, fiS_s _ (by omega), if_pos (by rw [bdC_t, itC_t]; clear ex hX ih_4; grind)])) rfl
              · refine z_iinc (pc := 62) hX (loc' := [(1, .int (iI (mS C i + 1))), (0, .ref t), (2, .int (iI (i))), (3, .int (iI (C i))), (4, .int (iI (bfC C i)))]) 1 rfl (by decide) rfl dX4_errorIndex_62 ?_
                refine z_goto (pc := 65) (tgt := 100) hX (by decide) dX4_errorIndex_65 ?_
                refine z_iinc (pc := 100) hX (loc' := [(2, .int (iI (i + 1))), (1, .int (iI (mS C i + 1))), (0, .ref t), (3, .int (iI (C i))), (4, .int (iI (bfC C i)))]) 2 rfl (by decide) rfl dX4_errorIndex_100 ?_
                refine z_goto (pc := 103) (tgt := 4) hX (by decide) dX4_errorIndex_103 ?_
                refine (congrArg (fun z_ : Int => Z G X 5 (0) (0) [(t, .inr (4, [.ref tc, .int (iI (len))])), (tc, zI G 60 (C))] 4 [(2, .int (iI (i + 1))), (1, .int (iI (z_))), (0, .ref t), (3, .int (iI (C i))), (4, .int (iI (bfC C i)))] []) (show (mS C i + 1 : Int) = mS C (i + 1) from by first | rfl | (rw [mS_s _ h0, if_pos (by rw [itC_t]; clear ex hX ih_4; grind)]; done) | (rw [mS_s _ h0, if_neg (by rw [itC_t]; clear ex hX ih_4; grind)]; done) | (exfalso; simp only [isT_t, isF_t, isK_t, isL_t] at *; omega))).mpr ?_
                refine z_at [2, 1, 0] [0, 1] (loc' := [(0, .ref t), (1, .int (iI (mS C (i + 1)))), (2, .int (iI ((i + 1))))]) (WS' := [(t, .inr (4, [.ref tc, .int (iI (len))])), (tc, zI G 60 (C))]) rfl (by decide) rfl ?_
                exact ih_4 (i + 1) (by first | assumption | omega | (clear ex hX ih_4; grind [uZ])) (by first | assumption | omega | (clear ex hX ih_4; grind [uZ])) (by first | (rw [hr, fiS_s _ (by omega), if_neg (by assumption)]) | (rw [hr, fiS_s _ (by omega), if_neg (by rw [bdC_t, itC_t]; clear ex hX ih_4; grind)])) (by omega)
        refine z_iload_n (pc := 21) hX 3 rfl rfl dX4_errorIndex_21 ?_
        refine z_if_le (pc := 22) (tgt := 38) hX (by decide) (by omega) dX4_errorIndex_22 (fun c_44 => ?_) (fun c_44 => ?_)
        · refine z_iconst (pc := 38) hX dX4_errorIndex_38 ?_
          refine z_istore (pc := 39) hX (loc' := [(4, .int (iI (0))), (3, .int (iI (C i))), (0, .ref t), (1, .int (iI (mS C i))), (2, .int (iI (i)))]) (by decide) rfl dX4_errorIndex_39 ?_
          refine (congrArg (fun z_ : Int => Z G X 5 (0) (0) [(t, .inr (4, [.ref tc, .int (iI (len))])), (tc, zI G 60 (C))] 41 [(4, .int (iI (z_))), (3, .int (iI (C i))), (0, .ref t), (1, .int (iI (mS C i))), (2, .int (iI (i)))] []) (show (0 : Int) = bfC C i from by first | (unfold bfC; rw [if_pos (by omega)]; done) | (unfold bfC; rw [if_neg (by omega)]))).mpr ?_
          refine z_at [2, 3, 4, 1, 0] [0, 1] (loc' := [(0, .ref t), (1, .int (iI (mS C i))), (2, .int (iI (i))), (3, .int (iI (C i))), (4, .int (iI (bfC C i)))]) (WS' := [(t, .inr (4, [.ref tc, .int (iI (len))])), (tc, zI G 60 (C))]) rfl (by decide) rfl ?_
          exact cut_41
        · refine z_aload_n (pc := 25) hX 1 rfl rfl dX4_errorIndex_25 ?_
          refine z_get (pc := 26) hX (T := TX4) (C := RX4) (N := 2) (i := 9) (ref := "SignLetters$Text") (name := "codes") (desc := "[I") hX4_errorIndex_X4 0 rfl rfl 0 (by decide) kX4_errorIndex_f9 ⟨rfl, rfl, rfl⟩ (v := .ref tc) rfl dX4_errorIndex_26 ?_
          refine z_iload_n (pc := 29) hX 3 rfl rfl dX4_errorIndex_29 ?_
          refine z_iconst (pc := 30) hX dX4_errorIndex_30 ?_
          refine z_isub (pc := 31) hX dX4_errorIndex_31 ?_
          refine z_callSN_i (pc := 32) (As := [.ref tc, .int (iI (i - 1))]) (rest := []) (wc := [(tc, zI G 60 (C))]) (wr := [(t, .inr (4, [.ref tc, .int (iI (len))]))]) hX (mX5_valueAt G (tc) (60) (C) (i - 1) (by first | assumption | omega | (clear ex hX ih_4 cut_41; grind [uZ])) (by first | assumption | omega | (clear ex hX ih_4 cut_41; grind [uZ]))) rfl rfl rfl gX4_errorIndex_X5_valueAt_n19 hdX5_valueAt (by decide +kernel) kX4_errorIndex_inX5 kX4_errorIndex_stX5_valueAt ⟨Nat.le_of_ble_eq_true rfl, Nat.le_of_ble_eq_true rfl⟩ [1] [0] rfl rfl (by decide) (by decide) (by decide) rfl (Nat.le_of_ble_eq_true rfl) ⟨Nat.le_of_ble_eq_true rfl, Nat.le_of_ble_eq_true rfl⟩ dX4_errorIndex_32 (fun r_45 u_45 h_45 => ?_)
          subst h_45
          show Z G X 5 (0) (0) [(t, .inr (4, [.ref tc, .int (iI (len))])), (tc, zI G 60 (C))] 35 [(3, .int (iI (C i))), (0, .ref t), (1, .int (iI (mS C i))), (2, .int (iI (i)))] [.int (iI (C (i - 1)))]
          refine z_goto (pc := 35) (tgt := 39) hX (by decide) dX4_errorIndex_35 ?_
          refine z_istore (pc := 39) hX (loc' := [(4, .int (iI (C (i - 1)))), (3, .int (iI (C i))), (0, .ref t), (1, .int (iI (mS C i))), (2, .int (iI (i)))]) (by decide) rfl dX4_errorIndex_39 ?_
          refine (congrArg (fun z_ : Int => Z G X 5 (0) (0) [(t, .inr (4, [.ref tc, .int (iI (len))])), (tc, zI G 60 (C))] 41 [(4, .int (iI (z_))), (3, .int (iI (C i))), (0, .ref t), (1, .int (iI (mS C i))), (2, .int (iI (i)))] []) (show (C (i - 1) : Int) = bfC C i from by first | (unfold bfC; rw [if_pos (by omega)]; done) | (unfold bfC; rw [if_neg (by omega)]))).mpr ?_
          refine z_at [2, 3, 4, 1, 0] [0, 1] (loc' := [(0, .ref t), (1, .int (iI (mS C i))), (2, .int (iI (i))), (3, .int (iI (C i))), (4, .int (iI (bfC C i)))]) (WS' := [(t, .inr (4, [.ref tc, .int (iI (len))])), (tc, zI G 60 (C))]) rfl (by decide) rfl ?_
          exact cut_41
  refine (congrArg (fun z_ : Int => Z G X 5 (0) (0) [(t, .inr (4, [.ref tc, .int (iI (len))])), (tc, zI G 60 (C))] 4 [(2, .int (iI (0))), (1, .int (iI (z_))), (0, .ref t)] []) (show (0 : Int) = mS C 0 from by first | rfl | (rw [mS_s _ h0, if_pos (by rw [itC_t]; clear ex hX cut_4; grind)]; done) | (rw [mS_s _ h0, if_neg (by rw [itC_t]; clear ex hX cut_4; grind)]; done) | (exfalso; simp only [isT_t, isF_t, isK_t, isL_t] at *; omega))).mpr ?_
  refine z_at [2, 1, 0] [0, 1] (loc' := [(0, .ref t), (1, .int (iI (mS C 0))), (2, .int (iI (0)))]) (WS' := [(t, .inr (4, [.ref tc, .int (iI (len))])), (tc, zI G 60 (C))]) rfl (by decide) rfl ?_
  exact cut_4 (Int.toNat (len - 0) + 1) (0) (by first | assumption | omega | (clear ex hX cut_4; grind [uZ])) (by first | assumption | omega | (clear ex hX cut_4; grind [uZ])) (by rfl) (by omega)
theorem hX4_isComplete_X4 : ∀ w ∈ wsX40, w ∈ wsX4_isComplete := by decide +kernel
theorem hdX4_errorIndex : yX4_errorIndex.cls ≠ "java/lang/invoke/MethodHandle" ∧ yX4_errorIndex.cls ≠ "java/lang/invoke/VarHandle" ∧ (parseMethodDescriptor yX4_errorIndex.desc).map (fun d => d.parameters.length) = some 0 := by decide +kernel
theorem kX4_isComplete_f15 : Cond.fieldLink RX4 15 "SignLetters$Text" "length" "I" ∈ wsX4_isComplete := by decide +kernel
theorem kX4_isComplete_f9 : Cond.fieldLink RX4 9 "SignLetters$Text" "codes" "[I" ∈ wsX4_isComplete := by decide +kernel
theorem kX4_isComplete_inX5 : Cond.initialized RX5 ∈ wsX4_isComplete := by decide +kernel
theorem kX4_isComplete_stX5_valueAt : Cond.static yX5_valueAt ∈ wsX4_isComplete := by decide +kernel
set_option maxHeartbeats 400000 in
set_option maxRecDepth 100000 in
theorem mX4_isComplete (G : ZG) (t : Nat) (tc : Nat) (len : Int) (C : Int → Int) (hlen : 0 ≤ len ∧ len ≤ 60) (hC : ∀ j : Int, 0 ≤ j → j < len → 33 ≤ C j ∧ C j ≤ 126) : zMeti yX4_isComplete wsX4_isComplete { frames := 3, cells := 0, slots := 0, locals := 64 } G [.ref t] [(t, .inr (4, [.ref tc, .int (iI (len))])), (tc, zI G 60 (C))] (fun (rr : Int32) (uu : Unit) => rr = iI (bI (cmP C len = true))) (fun (uu : Unit) => [(t, .inr (4, [.ref tc, .int (iI (len))])), (tc, zI G 60 (C))]) 0 0 := by
  refine z_meti (cc := cX4_isComplete) (nL := 1) (rt := .boolean) (by decide +kernel) rfl (Nat.le_of_ble_eq_true rfl) (fun X hX ex => ?_)
  have hX : ZOk G X 1 cX4_isComplete RX4 wsX4_isComplete { frames := 3, cells := 0, slots := 0, locals := 64 } := hX
  show Z G X 1 (0) (0) [(t, .inr (4, [.ref tc, .int (iI (len))])), (tc, zI G 60 (C))] 0 [(0, .ref t)] []
  have her := fiS_r (bdC C) (len := len) _ 0 rfl (by omega)
  have her2 : 0 ≤ erS C len ∧ erS C len ≤ len := her
  refine z_aload_n (pc := 0) hX 0 rfl rfl dX4_isComplete_0 ?_
  refine z_get (pc := 1) hX (T := TX4) (C := RX4) (N := 2) (i := 15) (ref := "SignLetters$Text") (name := "length") (desc := "I") hX4_isComplete_X4 0 rfl rfl 1 (by decide) kX4_isComplete_f15 ⟨rfl, rfl, rfl⟩ (v := .int (iI (len))) rfl dX4_isComplete_1 ?_
  refine z_if_le (pc := 4) (tgt := 41) hX (by decide) (by omega) dX4_isComplete_4 (fun c_1 => ?_) (fun c_1 => ?_)
  · refine z_iconst (pc := 41) hX dX4_isComplete_41 ?_
    exact ex _ _ _ () _ dX4_isComplete_42 (by first | decide +kernel | exact nar_b) (zb0 (by rw [cmP_t]; clear ex hX; grind)) rfl
  · refine z_aload_n (pc := 7) hX 0 rfl rfl dX4_isComplete_7 ?_
    refine z_callV_i (pc := 8) (As := []) (rest := []) (wc := [(t, .inr (4, [.ref tc, .int (iI (len))])), (tc, zI G 60 (C))]) (wr := []) hX (mX4_errorIndex G (t) (tc) (len) (C) (by first | assumption | omega | (clear ex hX; grind [uZ])) (by first | assumption | omega | (clear ex hX; grind [uZ]))) rfl rfl rfl (C := RX4) gX4_isComplete_X4_errorIndex ⟨rfl, hdX4_errorIndex⟩ (T := TX4) (N := 2) 0 rfl rfl ⟨Nat.le_of_ble_eq_true rfl, Nat.le_of_ble_eq_true rfl⟩ [0, 1] [] rfl rfl (by decide) (by decide) (by decide) rfl (Nat.le_of_ble_eq_true rfl) ⟨Nat.le_of_ble_eq_true rfl, Nat.le_of_ble_eq_true rfl⟩ dX4_isComplete_8 (fun r_2 u_2 h_2 => ?_)
    subst h_2
    show Z G X 1 (0) (0) [(t, .inr (4, [.ref tc, .int (iI (len))])), (tc, zI G 60 (C))] 11 [(0, .ref t)] [.int (iI (erS C len))]
    refine z_aload_n (pc := 11) hX 0 rfl rfl dX4_isComplete_11 ?_
    refine z_get (pc := 12) hX (T := TX4) (C := RX4) (N := 2) (i := 15) (ref := "SignLetters$Text") (name := "length") (desc := "I") hX4_isComplete_X4 0 rfl rfl 1 (by decide) kX4_isComplete_f15 ⟨rfl, rfl, rfl⟩ (v := .int (iI (len))) rfl dX4_isComplete_12 ?_
    refine z_icmp_ne (pc := 15) (tgt := 41) hX (by decide) (by omega) (by omega) dX4_isComplete_15 (fun c_3 => ?_) (fun c_3 => ?_)
    · refine z_iconst (pc := 41) hX dX4_isComplete_41 ?_
      exact ex _ _ _ () _ dX4_isComplete_42 (by first | decide +kernel | exact nar_b) (zb0 (by rw [cmP_t]; clear ex hX; grind)) rfl
    · have hCl := hC (len - 1) (by omega) (by omega)
      refine z_aload_n (pc := 18) hX 0 rfl rfl dX4_isComplete_18 ?_
      refine z_get (pc := 19) hX (T := TX4) (C := RX4) (N := 2) (i := 9) (ref := "SignLetters$Text") (name := "codes") (desc := "[I") hX4_isComplete_X4 0 rfl rfl 0 (by decide) kX4_isComplete_f9 ⟨rfl, rfl, rfl⟩ (v := .ref tc) rfl dX4_isComplete_19 ?_
      refine z_aload_n (pc := 22) hX 0 rfl rfl dX4_isComplete_22 ?_
      refine z_get (pc := 23) hX (T := TX4) (C := RX4) (N := 2) (i := 15) (ref := "SignLetters$Text") (name := "length") (desc := "I") hX4_isComplete_X4 0 rfl rfl 1 (by decide) kX4_isComplete_f15 ⟨rfl, rfl, rfl⟩ (v := .int (iI (len))) rfl dX4_isComplete_23 ?_
      refine z_iconst (pc := 26) hX dX4_isComplete_26 ?_
      refine z_isub (pc := 27) hX dX4_isComplete_27 ?_
      refine z_callSN_i (pc := 28) (As := [.ref tc, .int (iI (len - 1))]) (rest := []) (wc := [(tc, zI G 60 (C))]) (wr := [(t, .inr (4, [.ref tc, .int (iI (len))]))]) hX (mX5_valueAt G (tc) (60) (C) (len - 1) (by first | assumption | omega | (clear ex hX; grind [uZ])) (by first | assumption | omega | (clear ex hX; grind [uZ]))) rfl rfl rfl gX4_isComplete_X5_valueAt_n19 hdX5_valueAt (by decide +kernel) kX4_isComplete_inX5 kX4_isComplete_stX5_valueAt ⟨Nat.le_of_ble_eq_true rfl, Nat.le_of_ble_eq_true rfl⟩ [1] [0] rfl rfl (by decide) (by decide) (by decide) rfl (Nat.le_of_ble_eq_true rfl) ⟨Nat.le_of_ble_eq_true rfl, Nat.le_of_ble_eq_true rfl⟩ dX4_isComplete_28 (fun r_4 u_4 h_4 => ?_)
      subst h_4
      show Z G X 1 (0) (0) [(t, .inr (4, [.ref tc, .int (iI (len))])), (tc, zI G 60 (C))] 31 [(0, .ref t)] [.int (iI (C (len - 1)))]
      refine z_callS_i (pc := 31) (As := [.int (iI (C (len - 1)))]) (rest := []) (wc := []) (wr := [(t, .inr (4, [.ref tc, .int (iI (len))])), (tc, zI G 60 (C))]) hX (mX4_isKernSign G (C (len - 1)) (by first | assumption | omega | (clear ex hX; grind [uZ]))) rfl rfl rfl gX4_isComplete_X4_isKernSign hdX4_isKernSign ⟨Nat.le_of_ble_eq_true rfl, Nat.le_of_ble_eq_true rfl⟩ [] [0, 1] rfl rfl (by decide) (by decide) (by decide) rfl (Nat.le_of_ble_eq_true rfl) ⟨Nat.le_of_ble_eq_true rfl, Nat.le_of_ble_eq_true rfl⟩ dX4_isComplete_31 (fun r_5 u_5 h_5 => ?_)
      subst h_5
      show Z G X 1 (0) (0) [(t, .inr (4, [.ref tc, .int (iI (len))])), (tc, zI G 60 (C))] 34 [(0, .ref t)] [.int (iI (bI (isK (C (len - 1)) = true)))]
      refine z_bif_ne (pc := 34) (tgt := 41) hX (by decide) dX4_isComplete_34 (fun c_6 => ?_) (fun c_6 => ?_)
      · refine z_iconst (pc := 41) hX dX4_isComplete_41 ?_
        exact ex _ _ _ () _ dX4_isComplete_42 (by first | decide +kernel | exact nar_b) (zb0 (by rw [cmP_t]; clear ex hX; grind)) rfl
      · refine z_iconst (pc := 37) hX dX4_isComplete_37 ?_
        refine z_goto (pc := 38) (tgt := 42) hX (by decide) dX4_isComplete_38 ?_
        exact ex _ _ _ () _ dX4_isComplete_42 (by first | decide +kernel | exact nar_b) (zb1 (by rw [cmP_t]; clear ex hX; grind)) rfl
