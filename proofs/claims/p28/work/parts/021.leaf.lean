/-! ===== pure: what the methods answer, over integers ===== -/
theorem nar_b {P : Prop} [Decidable P] : narrow .boolean (.int (iI (bI P))) = .int (iI (bI P)) := by
  by_cases h : P
  · rw [bI_t h]; decide +kernel
  · rw [bI_f h]; decide +kernel
def wdI (x : Int) : Int := 6 + 7 * x % 9
def pIn (s r : Int) : Int := if s = 1 then (if 9 < 2 * r then 2 * r - 9 else 9 - 2 * r) / 2 else if s = 2 then r / 2 else if s = 3 then (if 3 ≤ r ∧ r ≤ 6 then 4 else 0) else 0
def bIn (s r b : Int) : Int := if r ≠ 0 ∧ r ≠ 9 then pIn s r else if b < pIn s r then pIn s r - b else 0
theorem pIn_r (s r : Int) (h : 0 ≤ r ∧ r < 10) : 0 ≤ pIn s r ∧ pIn s r ≤ 4 := by
  unfold pIn
  split
  · split <;> omega
  · split
    · omega
    · split
      · split <;> omega
      · omega
theorem bIn_r (s r b : Int) (h : 0 ≤ r ∧ r < 10) (hb : 0 ≤ b) : 0 ≤ bIn s r b ∧ bIn s r b ≤ 4 := by
  have := pIn_r s r h
  unfold bIn
  split
  · omega
  · split <;> omega
theorem zLs_r (s : Int) : 0 ≤ zLs s ∧ zLs s ≤ 10 := by
  unfold zLs
  repeat' split
  all_goals omega
theorem zMs_r (s : Int) : 4 ≤ zMs s ∧ zMs s ≤ 300 := by
  unfold zMs
  repeat' split
  all_goals omega
def sumZ (f : Int → Int) : Nat → Int
  | 0 => 0
  | n + 1 => sumZ f n + f n
theorem sumZ_0 (f : Int → Int) : sumZ f (0 : Int).toNat = 0 := rfl
theorem sumZ_s (f : Int → Int) {i : Int} (h : 0 ≤ i) : sumZ f (i + 1).toNat = sumZ f i.toNat + f i := by
  have e : (i + 1).toNat = i.toNat + 1 := by omega
  rw [e]
  show sumZ f i.toNat + f (i.toNat : Int) = _
  rw [Int.toNat_of_nonneg h]
theorem sumZ_r {f : Int → Int} {b : Int} : ∀ n : Nat, (∀ j : Int, 0 ≤ j → j < (n : Int) → 0 ≤ f j ∧ f j ≤ b) → 0 ≤ sumZ f n ∧ sumZ f n ≤ n * b
  | 0, _ => by simp [sumZ]
  | n + 1, h => by
    have h1 := sumZ_r n (fun j h0 hj => h j h0 (by omega))
    have h2 := h n (by omega) (by omega)
    have e : ((n + 1 : Nat) : Int) * b = n * b + b := by rw [Int.natCast_succ, Int.add_mul, Int.one_mul]
    rw [e]
    show 0 ≤ sumZ f n + f n ∧ sumZ f n + f n ≤ _
    omega
theorem sumZ_c {f g : Int → Int} : ∀ n : Nat, (∀ j : Int, 0 ≤ j → j < (n : Int) → f j = g j) → sumZ f n = sumZ g n
  | 0, _ => rfl
  | n + 1, h => by
    have h1 := sumZ_c n (fun j h0 hj => h j h0 (by omega))
    have h2 := h n (by omega) (by omega)
    show sumZ f n + f n = sumZ g n + g n
    rw [h1, h2]
def letA (F : Int → Int) (n j : Int) : Int := if 0 ≤ j ∧ j < n then F j else -1
def cntF (F : Int → Int) : Int → Int := fun j => if F j = -1 then 0 else 1
def insZ (F : Int → Int) (p n v : Int) : Int → Int := fun j => if j = p then v else if p < j ∧ j ≤ n then F (j - 1) else F j
def remZ (F : Int → Int) (p n : Int) : Int → Int := fun j => if p ≤ j ∧ j < n - 1 then F (j + 1) else F j
set_option maxHeartbeats 4000000 in
set_option maxRecDepth 100000 in
theorem mX5_isLetter (G : ZG) (x : Int) (hx : -2147483648 ≤ x ∧ x < 2147483648) : zMeti yX5_isLetter wsX5_isLetter { frames := 0, cells := 0, slots := 0, locals := 0 } G [.int (iI (x))] [] (fun (rr : Int32) (uu : Unit) => rr = iI (bI (0 ≤ x ∧ x < 26))) (fun (uu : Unit) => []) 0 0 := by
  refine z_meti (cc := cX5_isLetter) (nL := 1) (rt := .boolean) (by decide +kernel) rfl (Nat.le_of_ble_eq_true rfl) (fun X hX ex => ?_)
  have hX : ZOk G X 1 cX5_isLetter RX5 wsX5_isLetter { frames := 0, cells := 0, slots := 0, locals := 0 } := hX
  show Z G X 1 (0) (0) [] 0 [(0, .int (iI (x)))] []
  refine z_iload_n (pc := 0) hX 0 rfl rfl dX5_isLetter_0 ?_
  refine z_if_lt (pc := 1) (tgt := 14) hX (by decide) (by omega) dX5_isLetter_1 (fun c_1 => ?_) (fun c_1 => ?_)
  · refine z_iconst (pc := 14) hX dX5_isLetter_14 ?_
    exact ex _ _ _ () _ dX5_isLetter_15 (by first | decide +kernel | exact nar_b) (zb0 (by first | assumption | omega | (clear ex hX; grind [uZ]))) rfl
  · refine z_iload_n (pc := 4) hX 0 rfl rfl dX5_isLetter_4 ?_
    refine z_bipush (pc := 5) hX (z := 26) (by decide +kernel) dX5_isLetter_5 ?_
    refine z_icmp_ge (pc := 7) (tgt := 14) hX (by decide) (by omega) (by omega) dX5_isLetter_7 (fun c_2 => ?_) (fun c_2 => ?_)
    · refine z_iconst (pc := 14) hX dX5_isLetter_14 ?_
      exact ex _ _ _ () _ dX5_isLetter_15 (by first | decide +kernel | exact nar_b) (zb0 (by first | assumption | omega | (clear ex hX; grind [uZ]))) rfl
    · refine z_iconst (pc := 10) hX dX5_isLetter_10 ?_
      refine z_goto (pc := 11) (tgt := 15) hX (by decide) dX5_isLetter_11 ?_
      exact ex _ _ _ () _ dX5_isLetter_15 (by first | decide +kernel | exact nar_b) (zb1 (by first | assumption | omega | (clear ex hX; grind [uZ]))) rfl
set_option maxHeartbeats 4000000 in
set_option maxRecDepth 100000 in
theorem mX5_isSetting (G : ZG) (x : Int) (hx : -2147483648 ≤ x ∧ x < 2147483648) : zMeti yX5_isSetting wsX5_isSetting { frames := 0, cells := 0, slots := 0, locals := 0 } G [.int (iI (x))] [] (fun (rr : Int32) (uu : Unit) => rr = iI (bI (0 ≤ x ∧ x < 6))) (fun (uu : Unit) => []) 0 0 := by
  refine z_meti (cc := cX5_isSetting) (nL := 1) (rt := .boolean) (by decide +kernel) rfl (Nat.le_of_ble_eq_true rfl) (fun X hX ex => ?_)
  have hX : ZOk G X 1 cX5_isSetting RX5 wsX5_isSetting { frames := 0, cells := 0, slots := 0, locals := 0 } := hX
  show Z G X 1 (0) (0) [] 0 [(0, .int (iI (x)))] []
  refine z_iload_n (pc := 0) hX 0 rfl rfl dX5_isSetting_0 ?_
  refine z_if_lt (pc := 1) (tgt := 14) hX (by decide) (by omega) dX5_isSetting_1 (fun c_1 => ?_) (fun c_1 => ?_)
  · refine z_iconst (pc := 14) hX dX5_isSetting_14 ?_
    exact ex _ _ _ () _ dX5_isSetting_15 (by first | decide +kernel | exact nar_b) (zb0 (by first | assumption | omega | (clear ex hX; grind [uZ]))) rfl
  · refine z_iload_n (pc := 4) hX 0 rfl rfl dX5_isSetting_4 ?_
    refine z_bipush (pc := 5) hX (z := 6) (by decide +kernel) dX5_isSetting_5 ?_
    refine z_icmp_ge (pc := 7) (tgt := 14) hX (by decide) (by omega) (by omega) dX5_isSetting_7 (fun c_2 => ?_) (fun c_2 => ?_)
    · refine z_iconst (pc := 14) hX dX5_isSetting_14 ?_
      exact ex _ _ _ () _ dX5_isSetting_15 (by first | decide +kernel | exact nar_b) (zb0 (by first | assumption | omega | (clear ex hX; grind [uZ]))) rfl
    · refine z_iconst (pc := 10) hX dX5_isSetting_10 ?_
      refine z_goto (pc := 11) (tgt := 15) hX (by decide) dX5_isSetting_11 ?_
      exact ex _ _ _ () _ dX5_isSetting_15 (by first | decide +kernel | exact nar_b) (zb1 (by first | assumption | omega | (clear ex hX; grind [uZ]))) rfl
set_option maxHeartbeats 4000000 in
set_option maxRecDepth 100000 in
theorem mX5_widthOf (G : ZG) (x : Int) (hx : 0 ≤ x ∧ x < 26) : zMeti yX5_widthOf wsX5_widthOf { frames := 0, cells := 0, slots := 0, locals := 0 } G [.int (iI (x))] [] (fun (rr : Int32) (uu : Unit) => rr = iI (wdI x)) (fun (uu : Unit) => []) 0 0 := by
  refine z_meti (cc := cX5_widthOf) (nL := 1) (rt := .int) (by decide +kernel) rfl (Nat.le_of_ble_eq_true rfl) (fun X hX ex => ?_)
  have hX : ZOk G X 1 cX5_widthOf RX5 wsX5_widthOf { frames := 0, cells := 0, slots := 0, locals := 0 } := hX
  show Z G X 1 (0) (0) [] 0 [(0, .int (iI (x)))] []
  refine z_bipush (pc := 0) hX (z := 6) (by decide +kernel) dX5_widthOf_0 ?_
  refine z_bipush (pc := 2) hX (z := 7) (by decide +kernel) dX5_widthOf_2 ?_
  refine z_iload_n (pc := 4) hX 0 rfl rfl dX5_widthOf_4 ?_
  refine z_imul (pc := 5) hX dX5_widthOf_5 ?_
  refine z_bipush (pc := 6) hX (z := 9) (by decide +kernel) dX5_widthOf_6 ?_
  refine z_irem (pc := 8) hX (by omega) (by omega) dX5_widthOf_8 ?_
  refine z_iadd (pc := 9) hX dX5_widthOf_9 ?_
  exact ex _ _ _ () _ dX5_widthOf_10 rfl (congrArg iI (show (6 + ((7 * x) % 9) : Int) = wdI x from by rfl)) rfl
set_option maxHeartbeats 4000000 in
set_option maxRecDepth 100000 in
theorem mX5_leftShape (G : ZG) (x : Int) (hx : 0 ≤ x ∧ x < 26) : zMeti yX5_leftShape wsX5_leftShape { frames := 0, cells := 0, slots := 0, locals := 0 } G [.int (iI (x))] [] (fun (rr : Int32) (uu : Unit) => rr = iI (x % 4)) (fun (uu : Unit) => []) 0 0 := by
  refine z_meti (cc := cX5_leftShape) (nL := 1) (rt := .int) (by decide +kernel) rfl (Nat.le_of_ble_eq_true rfl) (fun X hX ex => ?_)
  have hX : ZOk G X 1 cX5_leftShape RX5 wsX5_leftShape { frames := 0, cells := 0, slots := 0, locals := 0 } := hX
  show Z G X 1 (0) (0) [] 0 [(0, .int (iI (x)))] []
  refine z_iload_n (pc := 0) hX 0 rfl rfl dX5_leftShape_0 ?_
  refine z_iconst (pc := 1) hX dX5_leftShape_1 ?_
  refine z_irem (pc := 2) hX (by omega) (by omega) dX5_leftShape_2 ?_
  exact ex _ _ _ () _ dX5_leftShape_3 rfl rfl rfl
set_option maxHeartbeats 4000000 in
set_option maxRecDepth 100000 in
theorem mX5_rightShape (G : ZG) (x : Int) (hx : 0 ≤ x ∧ x < 26) : zMeti yX5_rightShape wsX5_rightShape { frames := 0, cells := 0, slots := 0, locals := 0 } G [.int (iI (x))] [] (fun (rr : Int32) (uu : Unit) => rr = iI ((3 * x + 1) % 4)) (fun (uu : Unit) => []) 0 0 := by
  refine z_meti (cc := cX5_rightShape) (nL := 1) (rt := .int) (by decide +kernel) rfl (Nat.le_of_ble_eq_true rfl) (fun X hX ex => ?_)
  have hX : ZOk G X 1 cX5_rightShape RX5 wsX5_rightShape { frames := 0, cells := 0, slots := 0, locals := 0 } := hX
  show Z G X 1 (0) (0) [] 0 [(0, .int (iI (x)))] []
  refine z_iconst (pc := 0) hX dX5_rightShape_0 ?_
  refine z_iload_n (pc := 1) hX 0 rfl rfl dX5_rightShape_1 ?_
  refine z_imul (pc := 2) hX dX5_rightShape_2 ?_
  refine z_iconst (pc := 3) hX dX5_rightShape_3 ?_
  refine z_iadd (pc := 4) hX dX5_rightShape_4 ?_
  refine z_iconst (pc := 5) hX dX5_rightShape_5 ?_
  refine z_irem (pc := 6) hX (by omega) (by omega) dX5_rightShape_6 ?_
  exact ex _ _ _ () _ dX5_rightShape_7 rfl (congrArg iI (show (((3 * x) + 1) % 4 : Int) = (3 * x + 1) % 4 from by rfl)) rfl
set_option maxHeartbeats 4000000 in
set_option maxRecDepth 100000 in
theorem mX5_plainIndent (G : ZG) (s : Int) (q : Int) (hs : 0 ≤ s ∧ s < 4) (hr : 0 ≤ q ∧ q < 10) : zMeti yX5_plainIndent wsX5_plainIndent { frames := 0, cells := 0, slots := 0, locals := 0 } G [.int (iI (s)), .int (iI (q))] [] (fun (rr : Int32) (uu : Unit) => rr = iI (pIn s q)) (fun (uu : Unit) => []) 0 0 := by
  refine z_meti (cc := cX5_plainIndent) (nL := 2) (rt := .int) (by decide +kernel) rfl (Nat.le_of_ble_eq_true rfl) (fun X hX ex => ?_)
  have hX : ZOk G X 2 cX5_plainIndent RX5 wsX5_plainIndent { frames := 0, cells := 0, slots := 0, locals := 0 } := hX
  show Z G X 2 (0) (0) [] 0 [(0, .int (iI (s))), (1, .int (iI (q)))] []
  refine z_iload_n (pc := 0) hX 0 rfl rfl dX5_plainIndent_0 ?_
  by_cases c_1 : s = 1
  · refine z_tblIn (pc := 1) (tgt := 28) (off := 27) hX (by omega) (by omega) (by rw [c_1]; rfl) (by decide) dX5_plainIndent_1 ?_
    refine z_iconst (pc := 28) hX dX5_plainIndent_28 ?_
    refine z_iload_n (pc := 29) hX 1 rfl rfl dX5_plainIndent_29 ?_
    refine z_imul (pc := 30) hX dX5_plainIndent_30 ?_
    refine z_bipush (pc := 31) hX (z := 9) (by decide +kernel) dX5_plainIndent_31 ?_
    refine z_icmp_le (pc := 33) (tgt := 45) hX (by decide) (by omega) (by omega) dX5_plainIndent_33 (fun c_2 => ?_) (fun c_2 => ?_)
    · refine z_bipush (pc := 45) hX (z := 9) (by decide +kernel) dX5_plainIndent_45 ?_
      refine z_iconst (pc := 47) hX dX5_plainIndent_47 ?_
      refine z_iload_n (pc := 48) hX 1 rfl rfl dX5_plainIndent_48 ?_
      refine z_imul (pc := 49) hX dX5_plainIndent_49 ?_
      refine z_isub (pc := 50) hX dX5_plainIndent_50 ?_
      refine z_iconst (pc := 51) hX dX5_plainIndent_51 ?_
      refine z_idiv (pc := 52) hX (by omega) (by omega) dX5_plainIndent_52 ?_
      exact ex _ _ _ () _ dX5_plainIndent_53 rfl (congrArg iI (show ((9 - (2 * q)) / 2 : Int) = pIn s q from by unfold pIn; first | omega | grind)) rfl
    · refine z_iconst (pc := 36) hX dX5_plainIndent_36 ?_
      refine z_iload_n (pc := 37) hX 1 rfl rfl dX5_plainIndent_37 ?_
      refine z_imul (pc := 38) hX dX5_plainIndent_38 ?_
      refine z_bipush (pc := 39) hX (z := 9) (by decide +kernel) dX5_plainIndent_39 ?_
      refine z_isub (pc := 41) hX dX5_plainIndent_41 ?_
      refine z_goto (pc := 42) (tgt := 51) hX (by decide) dX5_plainIndent_42 ?_
      refine z_iconst (pc := 51) hX dX5_plainIndent_51 ?_
      refine z_idiv (pc := 52) hX (by omega) (by omega) dX5_plainIndent_52 ?_
      exact ex _ _ _ () _ dX5_plainIndent_53 rfl (congrArg iI (show (((2 * q) - 9) / 2 : Int) = pIn s q from by unfold pIn; first | omega | grind)) rfl
  by_cases c_3 : s = 2
  · refine z_tblIn (pc := 1) (tgt := 54) (off := 53) hX (by omega) (by omega) (by rw [c_3]; rfl) (by decide) dX5_plainIndent_1 ?_
    refine z_iload_n (pc := 54) hX 1 rfl rfl dX5_plainIndent_54 ?_
    refine z_iconst (pc := 55) hX dX5_plainIndent_55 ?_
    refine z_idiv (pc := 56) hX (by omega) (by omega) dX5_plainIndent_56 ?_
    exact ex _ _ _ () _ dX5_plainIndent_57 rfl (congrArg iI (show (q / 2 : Int) = pIn s q from by unfold pIn; first | omega | grind)) rfl
  by_cases c_4 : s = 3
  · refine z_tblIn (pc := 1) (tgt := 58) (off := 57) hX (by omega) (by omega) (by rw [c_4]; rfl) (by decide) dX5_plainIndent_1 ?_
    refine z_iload_n (pc := 58) hX 1 rfl rfl dX5_plainIndent_58 ?_
    refine z_iconst (pc := 59) hX dX5_plainIndent_59 ?_
    refine z_icmp_lt (pc := 60) (tgt := 73) hX (by decide) (by omega) (by omega) dX5_plainIndent_60 (fun c_5 => ?_) (fun c_5 => ?_)
    · refine z_iconst (pc := 73) hX dX5_plainIndent_73 ?_
      exact ex _ _ _ () _ dX5_plainIndent_74 rfl (congrArg iI (show (0 : Int) = pIn s q from by unfold pIn; first | omega | grind)) rfl
    · refine z_iload_n (pc := 63) hX 1 rfl rfl dX5_plainIndent_63 ?_
      refine z_bipush (pc := 64) hX (z := 6) (by decide +kernel) dX5_plainIndent_64 ?_
      refine z_icmp_gt (pc := 66) (tgt := 73) hX (by decide) (by omega) (by omega) dX5_plainIndent_66 (fun c_6 => ?_) (fun c_6 => ?_)
      · refine z_iconst (pc := 73) hX dX5_plainIndent_73 ?_
        exact ex _ _ _ () _ dX5_plainIndent_74 rfl (congrArg iI (show (0 : Int) = pIn s q from by unfold pIn; first | omega | grind)) rfl
      · refine z_iconst (pc := 69) hX dX5_plainIndent_69 ?_
        refine z_goto (pc := 70) (tgt := 74) hX (by decide) dX5_plainIndent_70 ?_
        exact ex _ _ _ () _ dX5_plainIndent_74 rfl (congrArg iI (show (4 : Int) = pIn s q from by unfold pIn; first | omega | grind)) rfl
  refine z_tblOut (pc := 1) (tgt := 75) hX (by omega) (by omega) (by decide) dX5_plainIndent_1 ?_
  refine z_iconst (pc := 75) hX dX5_plainIndent_75 ?_
  exact ex _ _ _ () _ dX5_plainIndent_76 rfl (congrArg iI (show (0 : Int) = pIn s q from by unfold pIn; first | omega | grind)) rfl
theorem hdX5_plainIndent : yX5_plainIndent.cls ≠ "java/lang/invoke/MethodHandle" ∧ yX5_plainIndent.cls ≠ "java/lang/invoke/VarHandle" ∧ (parseMethodDescriptor yX5_plainIndent.desc).map (fun d => d.parameters.length) = some 2 := by decide +kernel
set_option maxHeartbeats 4000000 in
set_option maxRecDepth 100000 in
theorem mX5_brushedIndent (G : ZG) (s : Int) (q : Int) (b : Int) (hs : 0 ≤ s ∧ s < 4) (hr : 0 ≤ q ∧ q < 10) (hb : 0 ≤ b ∧ b ≤ 4) : zMeti yX5_brushedIndent wsX5_brushedIndent { frames := 1, cells := 0, slots := 0, locals := 21 } G [.int (iI (s)), .int (iI (q)), .int (iI (b))] [] (fun (rr : Int32) (uu : Unit) => rr = iI (bIn s q b)) (fun (uu : Unit) => []) 0 0 := by
  refine z_meti (cc := cX5_brushedIndent) (nL := 4) (rt := .int) (by decide +kernel) rfl (Nat.le_of_ble_eq_true rfl) (fun X hX ex => ?_)
  have hX : ZOk G X 4 cX5_brushedIndent RX5 wsX5_brushedIndent { frames := 1, cells := 0, slots := 0, locals := 21 } := hX
  show Z G X 4 (0) (0) [] 0 [(0, .int (iI (s))), (1, .int (iI (q))), (2, .int (iI (b)))] []
  refine z_iload_n (pc := 0) hX 0 rfl rfl dX5_brushedIndent_0 ?_
  refine z_iload_n (pc := 1) hX 1 rfl rfl dX5_brushedIndent_1 ?_
  refine z_callS_i (pc := 2) (As := [.int (iI (s)), .int (iI (q))]) (rest := []) (wc := []) (wr := []) hX (mX5_plainIndent G (s) (q) (by first | assumption | omega | (clear ex hX; grind [uZ])) (by first | assumption | omega | (clear ex hX; grind [uZ]))) rfl rfl rfl gX5_brushedIndent_X5_plainIndent hdX5_plainIndent ⟨Nat.le_of_ble_eq_true rfl, Nat.le_of_ble_eq_true rfl⟩ [] [] rfl rfl (by decide) (by decide) (by decide) rfl (Nat.le_of_ble_eq_true rfl) ⟨Nat.le_of_ble_eq_true rfl, Nat.le_of_ble_eq_true rfl⟩ dX5_brushedIndent_2 (fun r_1 u_1 h_1 => ?_)
  subst h_1
  have hq_1 := pIn_r s q hr
  show Z G X 4 (0) (0) [] 5 [(0, .int (iI (s))), (1, .int (iI (q))), (2, .int (iI (b)))] [.int (iI (pIn s q))]
  refine z_istore_n (pc := 5) hX (loc' := [(3, .int (iI (pIn s q))), (0, .int (iI (s))), (1, .int (iI (q))), (2, .int (iI (b)))]) rfl (by decide) rfl dX5_brushedIndent_5 ?_
  refine z_iload_n (pc := 6) hX 2 rfl rfl dX5_brushedIndent_6 ?_
  refine z_if_eq (pc := 7) (tgt := 18) hX (by decide) (by omega) dX5_brushedIndent_7 (fun c_2 => ?_) (fun c_2 => ?_)
  · refine z_iload_n (pc := 18) hX 0 rfl rfl dX5_brushedIndent_18 ?_
    refine z_iload_n (pc := 19) hX 3 rfl rfl dX5_brushedIndent_19 ?_
    refine z_icmp_le (pc := 20) (tgt := 29) hX (by decide) (by omega) (by omega) dX5_brushedIndent_20 (fun c_3 => ?_) (fun c_3 => ?_)
    · refine z_iconst (pc := 29) hX dX5_brushedIndent_29 ?_
      exact ex _ _ _ () _ dX5_brushedIndent_30 rfl (congrArg iI (show (0 : Int) = bIn s q b from by have hq := pIn_r s q hr; unfold bIn; first | omega | grind)) rfl
    · refine z_iload_n (pc := 23) hX 0 rfl rfl dX5_brushedIndent_23 ?_
      refine z_iload_n (pc := 24) hX 3 rfl rfl dX5_brushedIndent_24 ?_
      refine z_isub (pc := 25) hX dX5_brushedIndent_25 ?_
      refine z_goto (pc := 26) (tgt := 30) hX (by decide) dX5_brushedIndent_26 ?_
      exact ex _ _ _ () _ dX5_brushedIndent_30 rfl (congrArg iI (show ((pIn s q) - b : Int) = bIn s q b from by have hq := pIn_r s q hr; unfold bIn; first | omega | grind)) rfl
  · refine z_iload_n (pc := 10) hX 2 rfl rfl dX5_brushedIndent_10 ?_
    refine z_bipush (pc := 11) hX (z := 9) (by decide +kernel) dX5_brushedIndent_11 ?_
    refine z_icmp_eq (pc := 13) (tgt := 18) hX (by decide) (by omega) (by omega) dX5_brushedIndent_13 (fun c_4 => ?_) (fun c_4 => ?_)
    · refine z_iload_n (pc := 18) hX 0 rfl rfl dX5_brushedIndent_18 ?_
      refine z_iload_n (pc := 19) hX 3 rfl rfl dX5_brushedIndent_19 ?_
      refine z_icmp_le (pc := 20) (tgt := 29) hX (by decide) (by omega) (by omega) dX5_brushedIndent_20 (fun c_5 => ?_) (fun c_5 => ?_)
      · refine z_iconst (pc := 29) hX dX5_brushedIndent_29 ?_
        exact ex _ _ _ () _ dX5_brushedIndent_30 rfl (congrArg iI (show (0 : Int) = bIn s q b from by have hq := pIn_r s q hr; unfold bIn; first | omega | grind)) rfl
      · refine z_iload_n (pc := 23) hX 0 rfl rfl dX5_brushedIndent_23 ?_
        refine z_iload_n (pc := 24) hX 3 rfl rfl dX5_brushedIndent_24 ?_
        refine z_isub (pc := 25) hX dX5_brushedIndent_25 ?_
        refine z_goto (pc := 26) (tgt := 30) hX (by decide) dX5_brushedIndent_26 ?_
        exact ex _ _ _ () _ dX5_brushedIndent_30 rfl (congrArg iI (show ((pIn s q) - b : Int) = bIn s q b from by have hq := pIn_r s q hr; unfold bIn; first | omega | grind)) rfl
    · refine z_iload_n (pc := 16) hX 0 rfl rfl dX5_brushedIndent_16 ?_
      exact ex _ _ _ () _ dX5_brushedIndent_17 rfl (congrArg iI (show (pIn s q : Int) = bIn s q b from by have hq := pIn_r s q hr; unfold bIn; first | omega | grind)) rfl
set_option maxHeartbeats 4000000 in
set_option maxRecDepth 100000 in
theorem mX5_valueAt (G : ZG) (a : Nat) (n : Nat) (F : Int → Int) (j : Int) (hj : 0 ≤ j ∧ j < n) (hn : n < 2147483648) : zMeti yX5_valueAt wsX5_valueAt { frames := 0, cells := 0, slots := 0, locals := 0 } G [.ref a, .int (iI (j))] [(a, zI G n (F))] (fun (rr : Int32) (uu : Unit) => rr = iI (F j)) (fun (uu : Unit) => [(a, zI G n (F))]) 0 0 := by
  refine z_meti (cc := cX5_valueAt) (nL := 2) (rt := .int) (by decide +kernel) rfl (Nat.le_of_ble_eq_true rfl) (fun X hX ex => ?_)
  have hX : ZOk G X 2 cX5_valueAt RX5 wsX5_valueAt { frames := 0, cells := 0, slots := 0, locals := 0 } := hX
  show Z G X 2 (0) (0) [(a, zI G n (F))] 0 [(0, .ref a), (1, .int (iI (j)))] []
  refine z_iload_n (pc := 0) hX 1 rfl rfl dX5_valueAt_0 ?_
  refine z_if_lt (pc := 1) (tgt := 16) hX (by decide) (by omega) dX5_valueAt_1 (fun c_1 => absurd c_1 (by first | omega | (clear ex hX; grind [uZ]))) (fun c_1 => ?_)
  refine z_iload_n (pc := 4) hX 1 rfl rfl dX5_valueAt_4 ?_
  refine z_aload_n (pc := 5) hX 0 rfl rfl dX5_valueAt_5 ?_
  refine z_alen (pc := 6) hX (z := n) 0 rfl rfl dX5_valueAt_6 ?_
  refine z_icmp_ge (pc := 7) (tgt := 16) hX (by decide) (by omega) (by omega) dX5_valueAt_7 (fun c_2 => absurd c_2 (by first | omega | (clear ex hX; grind [uZ]))) (fun c_2 => ?_)
  refine z_aload_n (pc := 10) hX 0 rfl rfl dX5_valueAt_10 ?_
  refine z_iload_n (pc := 11) hX 1 rfl rfl dX5_valueAt_11 ?_
  refine z_iald (pc := 12) hX (N := n) (F := F) 0 rfl (by omega) (by omega) dX5_valueAt_12 ?_
  refine z_goto (pc := 13) (tgt := 17) hX (by decide) dX5_valueAt_13 ?_
  exact ex _ _ _ () _ dX5_valueAt_17 rfl rfl rfl
set_option maxHeartbeats 4000000 in
set_option maxRecDepth 100000 in
theorem mX5_valueAt_L (G : ZG) (j : Int) (hj : 0 ≤ j ∧ j < 6) : zMeti yX5_valueAt wsX5_valueAt { frames := 0, cells := 0, slots := 0, locals := 0 } G [.ref G.2.2.2.2.2.1, .int (iI (j))] [] (fun (rr : Int32) (uu : Unit) => rr = iI (zLs j)) (fun (uu : Unit) => []) 0 0 := by
  refine z_meti (cc := cX5_valueAt) (nL := 2) (rt := .int) (by decide +kernel) rfl (Nat.le_of_ble_eq_true rfl) (fun X hX ex => ?_)
  have hX : ZOk G X 2 cX5_valueAt RX5 wsX5_valueAt { frames := 0, cells := 0, slots := 0, locals := 0 } := hX
  show Z G X 2 (0) (0) [] 0 [(0, .ref G.2.2.2.2.2.1), (1, .int (iI (j)))] []
  refine z_iload_n (pc := 0) hX 1 rfl rfl dX5_valueAt_0 ?_
  refine z_if_lt (pc := 1) (tgt := 16) hX (by decide) (by omega) dX5_valueAt_1 (fun c_1 => absurd c_1 (by first | omega | (clear ex hX; grind [uZ]))) (fun c_1 => ?_)
  refine z_iload_n (pc := 4) hX 1 rfl rfl dX5_valueAt_4 ?_
  refine z_aload_n (pc := 5) hX 0 rfl rfl dX5_valueAt_5 ?_
  refine z_alenL (pc := 6) hX dX5_valueAt_6 ?_
  refine z_icmp_ge (pc := 7) (tgt := 16) hX (by decide) (by omega) (by omega) dX5_valueAt_7 (fun c_2 => absurd c_2 (by first | omega | (clear ex hX; grind [uZ]))) (fun c_2 => ?_)
  refine z_aload_n (pc := 10) hX 0 rfl rfl dX5_valueAt_10 ?_
  refine z_iload_n (pc := 11) hX 1 rfl rfl dX5_valueAt_11 ?_
  refine z_ialdL (pc := 12) hX (by omega) dX5_valueAt_12 ?_
  refine z_goto (pc := 13) (tgt := 17) hX (by decide) dX5_valueAt_13 ?_
  exact ex _ _ _ () _ dX5_valueAt_17 rfl rfl rfl
set_option maxHeartbeats 4000000 in
set_option maxRecDepth 100000 in
theorem mX5_valueAt_M (G : ZG) (j : Int) (hj : 0 ≤ j ∧ j < 6) : zMeti yX5_valueAt wsX5_valueAt { frames := 0, cells := 0, slots := 0, locals := 0 } G [.ref G.2.2.2.2.2.2.1, .int (iI (j))] [] (fun (rr : Int32) (uu : Unit) => rr = iI (zMs j)) (fun (uu : Unit) => []) 0 0 := by
  refine z_meti (cc := cX5_valueAt) (nL := 2) (rt := .int) (by decide +kernel) rfl (Nat.le_of_ble_eq_true rfl) (fun X hX ex => ?_)
  have hX : ZOk G X 2 cX5_valueAt RX5 wsX5_valueAt { frames := 0, cells := 0, slots := 0, locals := 0 } := hX
  show Z G X 2 (0) (0) [] 0 [(0, .ref G.2.2.2.2.2.2.1), (1, .int (iI (j)))] []
  refine z_iload_n (pc := 0) hX 1 rfl rfl dX5_valueAt_0 ?_
  refine z_if_lt (pc := 1) (tgt := 16) hX (by decide) (by omega) dX5_valueAt_1 (fun c_1 => absurd c_1 (by first | omega | (clear ex hX; grind [uZ]))) (fun c_1 => ?_)
  refine z_iload_n (pc := 4) hX 1 rfl rfl dX5_valueAt_4 ?_
  refine z_aload_n (pc := 5) hX 0 rfl rfl dX5_valueAt_5 ?_
  refine z_alenM (pc := 6) hX dX5_valueAt_6 ?_
  refine z_icmp_ge (pc := 7) (tgt := 16) hX (by decide) (by omega) (by omega) dX5_valueAt_7 (fun c_2 => absurd c_2 (by first | omega | (clear ex hX; grind [uZ]))) (fun c_2 => ?_)
  refine z_aload_n (pc := 10) hX 0 rfl rfl dX5_valueAt_10 ?_
  refine z_iload_n (pc := 11) hX 1 rfl rfl dX5_valueAt_11 ?_
  refine z_ialdM (pc := 12) hX (by omega) dX5_valueAt_12 ?_
  refine z_goto (pc := 13) (tgt := 17) hX (by decide) dX5_valueAt_13 ?_
  exact ex _ _ _ () _ dX5_valueAt_17 rfl rfl rfl
set_option maxHeartbeats 4000000 in
set_option maxRecDepth 100000 in
theorem mX5_store (G : ZG) (a : Nat) (n : Nat) (F : Int → Int) (j : Int) (v : Int) (hj : 0 ≤ j ∧ j < n) (hn : n < 2147483648) : zMetv yX5_store wsX5_store { frames := 0, cells := 0, slots := 0, locals := 0 } G [.ref a, .int (iI (j)), .int (iI (v))] [(a, zI G n (F))] (fun (uu : Unit) => True) (fun (uu : Unit) => [(a, zI G n (uZ F j v))]) 0 0 := by
  refine z_metv (cc := cX5_store) (nL := 3) (by decide +kernel) rfl (Nat.le_of_ble_eq_true rfl) (fun X hX ex => ?_)
  have hX : ZOk G X 3 cX5_store RX5 wsX5_store { frames := 0, cells := 0, slots := 0, locals := 0 } := hX
  show Z G X 3 (0) (0) [(a, zI G n (F))] 0 [(0, .ref a), (1, .int (iI (j))), (2, .int (iI (v)))] []
  refine z_iload_n (pc := 0) hX 1 rfl rfl dX5_store_0 ?_
  refine z_if_lt (pc := 1) (tgt := 14) hX (by decide) (by omega) dX5_store_1 (fun c_1 => absurd c_1 (by first | omega | (clear ex hX; grind [uZ]))) (fun c_1 => ?_)
  refine z_iload_n (pc := 4) hX 1 rfl rfl dX5_store_4 ?_
  refine z_aload_n (pc := 5) hX 0 rfl rfl dX5_store_5 ?_
  refine z_alen (pc := 6) hX (z := n) 0 rfl rfl dX5_store_6 ?_
  refine z_icmp_ge (pc := 7) (tgt := 14) hX (by decide) (by omega) (by omega) dX5_store_7 (fun c_2 => absurd c_2 (by first | omega | (clear ex hX; grind [uZ]))) (fun c_2 => ?_)
  refine z_aload_n (pc := 10) hX 0 rfl rfl dX5_store_10 ?_
  refine z_iload_n (pc := 11) hX 1 rfl rfl dX5_store_11 ?_
  refine z_iload_n (pc := 12) hX 2 rfl rfl dX5_store_12 ?_
  refine z_iast (pc := 13) hX (N := n) (F := F) (WS' := [(a, zI G n (uZ F j v))]) 0 rfl (by omega) (by omega) rfl dX5_store_13 ?_
  exact ex _ _ () _ dX5_store_14 trivial rfl
set_option maxHeartbeats 4000000 in
set_option maxRecDepth 100000 in
theorem mX5_store_no (G : ZG) (a : Nat) (n : Nat) (F : Int → Int) (j : Int) (v : Int) (hj : -2147483648 ≤ j ∧ j < 0) : zMetv yX5_store wsX5_store { frames := 0, cells := 0, slots := 0, locals := 0 } G [.ref a, .int (iI (j)), .int (iI (v))] [(a, zI G n (F))] (fun (uu : Unit) => True) (fun (uu : Unit) => [(a, zI G n (F))]) 0 0 := by
  refine z_metv (cc := cX5_store) (nL := 3) (by decide +kernel) rfl (Nat.le_of_ble_eq_true rfl) (fun X hX ex => ?_)
  have hX : ZOk G X 3 cX5_store RX5 wsX5_store { frames := 0, cells := 0, slots := 0, locals := 0 } := hX
  show Z G X 3 (0) (0) [(a, zI G n (F))] 0 [(0, .ref a), (1, .int (iI (j))), (2, .int (iI (v)))] []
  refine z_iload_n (pc := 0) hX 1 rfl rfl dX5_store_0 ?_
  refine z_if_lt (pc := 1) (tgt := 14) hX (by decide) (by omega) dX5_store_1 (fun c_1 => ?_) (fun c_1 => absurd c_1 (by first | omega | (clear ex hX; grind [uZ])))
  exact ex _ _ () _ dX5_store_14 trivial rfl
theorem hdX5_valueAt : yX5_valueAt.cls ≠ "java/lang/invoke/MethodHandle" ∧ yX5_valueAt.cls ≠ "java/lang/invoke/VarHandle" ∧ (parseMethodDescriptor yX5_valueAt.desc).map (fun d => d.parameters.length) = some 2 := by decide +kernel
theorem kX5_isInRange_f330 : Cond.fieldLink RX5 330 RX5 "LEAST_SETTINGS" "[I" ∈ wsX5_isInRange := by decide +kernel
theorem kX5_isInRange_f333 : Cond.fieldLink RX5 333 RX5 "MOST_SETTINGS" "[I" ∈ wsX5_isInRange := by decide +kernel
set_option maxHeartbeats 4000000 in
set_option maxRecDepth 100000 in
theorem mX5_isInRange (G : ZG) (s : Int) (v : Int) (hs : 0 ≤ s ∧ s < 6) (hv : -2147483648 ≤ v ∧ v < 2147483648) : zMeti yX5_isInRange wsX5_isInRange { frames := 1, cells := 0, slots := 0, locals := 21 } G [.int (iI (s)), .int (iI (v))] [] (fun (rr : Int32) (uu : Unit) => rr = iI (bI (zLs s ≤ v ∧ v ≤ zMs s))) (fun (uu : Unit) => []) 0 0 := by
  refine z_meti (cc := cX5_isInRange) (nL := 2) (rt := .boolean) (by decide +kernel) rfl (Nat.le_of_ble_eq_true rfl) (fun X hX ex => ?_)
  have hX : ZOk G X 2 cX5_isInRange RX5 wsX5_isInRange { frames := 1, cells := 0, slots := 0, locals := 21 } := hX
  show Z G X 2 (0) (0) [] 0 [(0, .int (iI (s))), (1, .int (iI (v)))] []
  have hz := zLs_r s
  have hz2 := zMs_r s
  refine z_iload_n (pc := 0) hX 1 rfl rfl dX5_isInRange_0 ?_
  refine z_getsL (pc := 1) hX (i := 330) kX5_isInRange_f330 dX5_isInRange_1 ?_
  refine z_iload_n (pc := 4) hX 0 rfl rfl dX5_isInRange_4 ?_
  refine z_callS_i (pc := 5) (As := [.ref G.2.2.2.2.2.1, .int (iI (s))]) (rest := [.int (iI (v))]) (wc := []) (wr := []) hX (mX5_valueAt_L G (s) (by first | assumption | omega | (clear ex hX; grind [uZ]))) rfl rfl rfl gX5_isInRange_X5_valueAt hdX5_valueAt ⟨Nat.le_of_ble_eq_true rfl, Nat.le_of_ble_eq_true rfl⟩ [] [] rfl rfl (by decide) (by decide) (by decide) rfl (Nat.le_of_ble_eq_true rfl) ⟨Nat.le_of_ble_eq_true rfl, Nat.le_of_ble_eq_true rfl⟩ dX5_isInRange_5 (fun r_1 u_1 h_1 => ?_)
  subst h_1
  show Z G X 2 (0) (0) [] 8 [(0, .int (iI (s))), (1, .int (iI (v)))] [.int (iI (zLs s)), .int (iI (v))]
  refine z_icmp_lt (pc := 8) (tgt := 26) hX (by decide) (by omega) (by omega) dX5_isInRange_8 (fun c_2 => ?_) (fun c_2 => ?_)
  · refine z_iconst (pc := 26) hX dX5_isInRange_26 ?_
    exact ex _ _ _ () _ dX5_isInRange_27 (by first | decide +kernel | exact nar_b) (zb0 (by first | assumption | omega | (clear ex hX; grind [uZ]))) rfl
  · refine z_iload_n (pc := 11) hX 1 rfl rfl dX5_isInRange_11 ?_
    refine z_getsM (pc := 12) hX (i := 333) kX5_isInRange_f333 dX5_isInRange_12 ?_
    refine z_iload_n (pc := 15) hX 0 rfl rfl dX5_isInRange_15 ?_
    refine z_callS_i (pc := 16) (As := [.ref G.2.2.2.2.2.2.1, .int (iI (s))]) (rest := [.int (iI (v))]) (wc := []) (wr := []) hX (mX5_valueAt_M G (s) (by first | assumption | omega | (clear ex hX; grind [uZ]))) rfl rfl rfl gX5_isInRange_X5_valueAt hdX5_valueAt ⟨Nat.le_of_ble_eq_true rfl, Nat.le_of_ble_eq_true rfl⟩ [] [] rfl rfl (by decide) (by decide) (by decide) rfl (Nat.le_of_ble_eq_true rfl) ⟨Nat.le_of_ble_eq_true rfl, Nat.le_of_ble_eq_true rfl⟩ dX5_isInRange_16 (fun r_3 u_3 h_3 => ?_)
    subst h_3
    show Z G X 2 (0) (0) [] 19 [(0, .int (iI (s))), (1, .int (iI (v)))] [.int (iI (zMs s)), .int (iI (v))]
    refine z_icmp_gt (pc := 19) (tgt := 26) hX (by decide) (by omega) (by omega) dX5_isInRange_19 (fun c_4 => ?_) (fun c_4 => ?_)
    · refine z_iconst (pc := 26) hX dX5_isInRange_26 ?_
      exact ex _ _ _ () _ dX5_isInRange_27 (by first | decide +kernel | exact nar_b) (zb0 (by first | assumption | omega | (clear ex hX; grind [uZ]))) rfl
    · refine z_iconst (pc := 22) hX dX5_isInRange_22 ?_
      refine z_goto (pc := 23) (tgt := 27) hX (by decide) dX5_isInRange_23 ?_
      exact ex _ _ _ () _ dX5_isInRange_27 (by first | decide +kernel | exact nar_b) (zb1 (by first | assumption | omega | (clear ex hX; grind [uZ]))) rfl
