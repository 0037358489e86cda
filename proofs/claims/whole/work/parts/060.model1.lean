set_option maxHeartbeats 400000 in
set_option maxRecDepth 100000 in
theorem mX6_in (G : ZG) (v : Int) (l : Int) (u : Int) (hv : -2147483648 ≤ v ∧ v < 2147483648) (hl : -2147483648 ≤ l ∧ l < 2147483648) (hu : -2147483648 ≤ u ∧ u < 2147483648) : zMeti yX6_in wsX6_in { frames := 0, cells := 0, slots := 0, locals := 0 } G [.int (iI (v)), .int (iI (l)), .int (iI (u))] [] (fun (rr : Int32) (uu : Unit) => rr = iI (bI (l ≤ v ∧ v ≤ u))) (fun (uu : Unit) => []) 0 0 := by
  refine z_meti (cc := cX6_in) (nL := 3) (rt := .boolean) (by decide +kernel) rfl (Nat.le_of_ble_eq_true rfl) (fun X hX ex => ?_)
  have hX : ZOk G X 3 cX6_in RX6 wsX6_in { frames := 0, cells := 0, slots := 0, locals := 0 } := hX
  show Z G X 3 (0) (0) [] 0 [(0, .int (iI (v))), (1, .int (iI (l))), (2, .int (iI (u)))] []
  refine z_iload_n (pc := 0) hX 0 rfl rfl dX6_in_0 ?_
  refine z_iload_n (pc := 1) hX 1 rfl rfl dX6_in_1 ?_
  refine z_icmp_lt (pc := 2) (tgt := 14) hX (by decide) (by omega) (by omega) dX6_in_2 (fun c_1 => ?_) (fun c_1 => ?_)
  · refine z_iconst (pc := 14) hX dX6_in_14 ?_
    exact ex _ _ _ () _ dX6_in_15 (by first | decide +kernel | exact nar_b) (zb0 (by first | assumption | omega | (clear ex hX; grind [uZ]))) rfl
  · refine z_iload_n (pc := 5) hX 0 rfl rfl dX6_in_5 ?_
    refine z_iload_n (pc := 6) hX 2 rfl rfl dX6_in_6 ?_
    refine z_icmp_gt (pc := 7) (tgt := 14) hX (by decide) (by omega) (by omega) dX6_in_7 (fun c_2 => ?_) (fun c_2 => ?_)
    · refine z_iconst (pc := 14) hX dX6_in_14 ?_
      exact ex _ _ _ () _ dX6_in_15 (by first | decide +kernel | exact nar_b) (zb0 (by first | assumption | omega | (clear ex hX; grind [uZ]))) rfl
    · refine z_iconst (pc := 10) hX dX6_in_10 ?_
      refine z_goto (pc := 11) (tgt := 15) hX (by decide) dX6_in_11 ?_
      exact ex _ _ _ () _ dX6_in_15 (by first | decide +kernel | exact nar_b) (zb1 (by first | assumption | omega | (clear ex hX; grind [uZ]))) rfl
theorem hX6_fails_X6 : ∀ w ∈ wsX60, w ∈ wsX6_fails := by decide +kernel
theorem kX6_fails_f40 : Cond.fieldLink RX6 40 "SignLettersModel" "thrown" "I" ∈ wsX6_fails := by decide +kernel
set_option maxHeartbeats 400000 in
set_option maxRecDepth 100000 in
theorem mX6_fails (G : ZG) (m : Nat) (s1 : Nat) (s2 : Nat) (s3 : Nat) (s4 : Nat) (m1 : Nat) (m2 : Nat) (m3 : Nat) (m4 : Nat) (l1 : Nat) (l2 : Nat) (th : Int) (sm : Int) (len : Int) (ax : Int) (rm : Int) (hs : Bool) (hh : Int64) (S : Int → Int) (v : Int)  : zMeti yX6_fails wsX6_fails { frames := 0, cells := 0, slots := 0, locals := 0 } G [.ref m, .int (iI (v))] [(m, .inr (6, [.int (iI (th)), .ref s1, .ref s2, .int (iI (sm)), .ref s3, .int (iI (bI (hs = true))), .ref s4, .int (iI (len)), .ref m1, .ref m2, .ref m3, .ref m4, .int (iI (ax)), .ref l1, .ref l2, .int (iI (rm)), .long (hh)]))] (fun (rr : Int32) (uu : Unit) => rr = iI (0)) (fun (uu : Unit) => [(m, .inr (6, [.int (iI (v)), .ref s1, .ref s2, .int (iI (sm)), .ref s3, .int (iI (bI (hs = true))), .ref s4, .int (iI (len)), .ref m1, .ref m2, .ref m3, .ref m4, .int (iI (ax)), .ref l1, .ref l2, .int (iI (rm)), .long (hh)]))]) 0 0 := by
  refine z_meti (cc := cX6_fails) (nL := 2) (rt := .int) (by decide +kernel) rfl (Nat.le_of_ble_eq_true rfl) (fun X hX ex => ?_)
  have hX : ZOk G X 2 cX6_fails RX6 wsX6_fails { frames := 0, cells := 0, slots := 0, locals := 0 } := hX
  show Z G X 2 (0) (0) [(m, .inr (6, [.int (iI (th)), .ref s1, .ref s2, .int (iI (sm)), .ref s3, .int (iI (bI (hs = true))), .ref s4, .int (iI (len)), .ref m1, .ref m2, .ref m3, .ref m4, .int (iI (ax)), .ref l1, .ref l2, .int (iI (rm)), .long (hh)]))] 0 [(0, .ref m), (1, .int (iI (v)))] []
  refine z_aload_n (pc := 0) hX 0 rfl rfl dX6_fails_0 ?_
  refine z_iload_n (pc := 1) hX 1 rfl rfl dX6_fails_1 ?_
  refine z_put (pc := 2) hX (T := TX6) (C := RX6) (N := 17) (i := 40) (ref := "SignLettersModel") (name := "thrown") (desc := "I") (WS' := [(m, .inr (6, [.int (iI (v)), .ref s1, .ref s2, .int (iI (sm)), .ref s3, .int (iI (bI (hs = true))), .ref s4, .int (iI (len)), .ref m1, .ref m2, .ref m3, .ref m4, .int (iI (ax)), .ref l1, .ref l2, .int (iI (rm)), .long (hh)]))]) tyX6 tyX6_ok nmX6 hX6_fails_X6 0 rfl rfl 0 (by decide) kX6_fails_f40 ⟨rfl, rfl, rfl⟩ rfl (ty := .int) (by decide +kernel) rfl rfl (Nat.le_of_ble_eq_true rfl) rfl dX6_fails_2 ?_
  refine z_iconst (pc := 5) hX dX6_fails_5 ?_
  exact ex _ _ _ () _ dX6_fails_6 rfl rfl rfl
set_option maxHeartbeats 400000 in
set_option maxRecDepth 100000 in
theorem mX6_size (G : ZG) (v : Int) (hv : -2147483648 ≤ v ∧ v < 2147483648) : zMeti yX6_size wsX6_size { frames := 0, cells := 0, slots := 0, locals := 0 } G [.int (iI (v))] [] (fun (rr : Int32) (uu : Unit) => rr = iI (if v < 0 then -v else v)) (fun (uu : Unit) => []) 0 0 := by
  refine z_meti (cc := cX6_size) (nL := 1) (rt := .int) (by decide +kernel) rfl (Nat.le_of_ble_eq_true rfl) (fun X hX ex => ?_)
  have hX : ZOk G X 1 cX6_size RX6 wsX6_size { frames := 0, cells := 0, slots := 0, locals := 0 } := hX
  show Z G X 1 (0) (0) [] 0 [(0, .int (iI (v)))] []
  refine z_iload_n (pc := 0) hX 0 rfl rfl dX6_size_0 ?_
  refine z_if_ge (pc := 1) (tgt := 9) hX (by decide) (by omega) dX6_size_1 (fun c_1 => ?_) (fun c_1 => ?_)
  · refine z_iload_n (pc := 9) hX 0 rfl rfl dX6_size_9 ?_
    exact ex _ _ _ () _ dX6_size_10 rfl (congrArg iI (show (v : Int) = if v < 0 then -v else v from by first | (rw [if_pos (by omega)]; done) | (rw [if_neg (by omega)]; done))) rfl
  · refine z_iload_n (pc := 4) hX 0 rfl rfl dX6_size_4 ?_
    refine z_ineg (pc := 5) hX dX6_size_5 ?_
    refine z_goto (pc := 6) (tgt := 10) hX (by decide) dX6_size_6 ?_
    exact ex _ _ _ () _ dX6_size_10 rfl (congrArg iI (show (-v : Int) = if v < 0 then -v else v from by first | (rw [if_pos (by omega)]; done) | (rw [if_neg (by omega)]; done))) rfl
theorem hX6_isItem_X6 : ∀ w ∈ wsX60, w ∈ wsX6_isItem := by decide +kernel
theorem hdX6_in : yX6_in.cls ≠ "java/lang/invoke/MethodHandle" ∧ yX6_in.cls ≠ "java/lang/invoke/VarHandle" ∧ (parseMethodDescriptor yX6_in.desc).map (fun d => d.parameters.length) = some 3 := by decide +kernel
theorem kX6_isItem_f7 : Cond.fieldLink RX6 7 "SignLettersModel" "s" "[I" ∈ wsX6_isItem := by decide +kernel
set_option maxHeartbeats 400000 in
set_option maxRecDepth 100000 in
theorem mX6_isItem (G : ZG) (m : Nat) (s1 : Nat) (s2 : Nat) (s3 : Nat) (s4 : Nat) (m1 : Nat) (m2 : Nat) (m3 : Nat) (m4 : Nat) (l1 : Nat) (l2 : Nat) (th : Int) (sm : Int) (len : Int) (ax : Int) (rm : Int) (hs : Bool) (hh : Int64) (S : Int → Int) (p : Int) (hn : 0 ≤ S 7 ∧ S 7 ≤ 20) (hp : -2147483648 ≤ p ∧ p < 2147483648) : zMeti yX6_isItem wsX6_isItem { frames := 1, cells := 0, slots := 0, locals := 22 } G [.ref m, .int (iI (p))] [(m, .inr (6, [.int (iI (th)), .ref s1, .ref s2, .int (iI (sm)), .ref s3, .int (iI (bI (hs = true))), .ref s4, .int (iI (len)), .ref m1, .ref m2, .ref m3, .ref m4, .int (iI (ax)), .ref l1, .ref l2, .int (iI (rm)), .long (hh)])), (s1, zI G 48 (S))] (fun (rr : Int32) (uu : Unit) => rr = iI (bI (0 ≤ p ∧ p < S 7))) (fun (uu : Unit) => [(m, .inr (6, [.int (iI (th)), .ref s1, .ref s2, .int (iI (sm)), .ref s3, .int (iI (bI (hs = true))), .ref s4, .int (iI (len)), .ref m1, .ref m2, .ref m3, .ref m4, .int (iI (ax)), .ref l1, .ref l2, .int (iI (rm)), .long (hh)])), (s1, zI G 48 (S))]) 0 0 := by
  refine z_meti (cc := cX6_isItem) (nL := 2) (rt := .boolean) (by decide +kernel) rfl (Nat.le_of_ble_eq_true rfl) (fun X hX ex => ?_)
  have hX : ZOk G X 2 cX6_isItem RX6 wsX6_isItem { frames := 1, cells := 0, slots := 0, locals := 22 } := hX
  show Z G X 2 (0) (0) [(m, .inr (6, [.int (iI (th)), .ref s1, .ref s2, .int (iI (sm)), .ref s3, .int (iI (bI (hs = true))), .ref s4, .int (iI (len)), .ref m1, .ref m2, .ref m3, .ref m4, .int (iI (ax)), .ref l1, .ref l2, .int (iI (rm)), .long (hh)])), (s1, zI G 48 (S))] 0 [(0, .ref m), (1, .int (iI (p)))] []
  refine z_iload_n (pc := 0) hX 1 rfl rfl dX6_isItem_0 ?_
  refine z_iconst (pc := 1) hX dX6_isItem_1 ?_
  refine z_aload_n (pc := 2) hX 0 rfl rfl dX6_isItem_2 ?_
  refine z_get (pc := 3) hX (T := TX6) (C := RX6) (N := 17) (i := 7) (ref := "SignLettersModel") (name := "s") (desc := "[I") hX6_isItem_X6 0 rfl rfl 1 (by decide) kX6_isItem_f7 ⟨rfl, rfl, rfl⟩ (v := .ref s1) rfl dX6_isItem_3 ?_
  refine z_bipush (pc := 6) hX (z := 7) (by decide +kernel) dX6_isItem_6 ?_
  refine z_iald (pc := 8) hX (N := 48) (F := S) 1 rfl (by omega) (by omega) dX6_isItem_8 ?_
  refine z_iconst (pc := 9) hX dX6_isItem_9 ?_
  refine z_isub (pc := 10) hX dX6_isItem_10 ?_
  refine z_callS_i (pc := 11) (As := [.int (iI (p)), .int (iI (0)), .int (iI ((S 7) - 1))]) (rest := []) (wc := []) (wr := [(m, .inr (6, [.int (iI (th)), .ref s1, .ref s2, .int (iI (sm)), .ref s3, .int (iI (bI (hs = true))), .ref s4, .int (iI (len)), .ref m1, .ref m2, .ref m3, .ref m4, .int (iI (ax)), .ref l1, .ref l2, .int (iI (rm)), .long (hh)])), (s1, zI G 48 (S))]) hX (mX6_in G (p) (0) ((S 7) - 1) (by first | assumption | omega | (clear ex hX; grind [uZ])) (by first | assumption | omega | (clear ex hX; grind [uZ])) (by first | assumption | omega | (clear ex hX; grind [uZ]))) rfl rfl rfl gX6_isItem_X6_in hdX6_in ⟨Nat.le_of_ble_eq_true rfl, Nat.le_of_ble_eq_true rfl⟩ [] [0, 1] rfl rfl (by decide) (by decide) (by decide) rfl (Nat.le_of_ble_eq_true rfl) ⟨Nat.le_of_ble_eq_true rfl, Nat.le_of_ble_eq_true rfl⟩ dX6_isItem_11 (fun r_1 u_1 h_1 => ?_)
  subst h_1
  show Z G X 2 (0) (0) [(m, .inr (6, [.int (iI (th)), .ref s1, .ref s2, .int (iI (sm)), .ref s3, .int (iI (bI (hs = true))), .ref s4, .int (iI (len)), .ref m1, .ref m2, .ref m3, .ref m4, .int (iI (ax)), .ref l1, .ref l2, .int (iI (rm)), .long (hh)])), (s1, zI G 48 (S))] 14 [(0, .ref m), (1, .int (iI (p)))] [.int (iI (bI (0 ≤ p ∧ p ≤ ((S 7) - 1))))]
  exact ex _ _ _ () _ dX6_isItem_14 (by first | decide +kernel | exact nar_b) (by exact bI_c (by omega)) rfl
theorem hX6_isLetter_X6 : ∀ w ∈ wsX60, w ∈ wsX6_isLetter := by decide +kernel
theorem hdX6_isItem : yX6_isItem.cls ≠ "java/lang/invoke/MethodHandle" ∧ yX6_isItem.cls ≠ "java/lang/invoke/VarHandle" ∧ (parseMethodDescriptor yX6_isItem.desc).map (fun d => d.parameters.length) = some 1 := by decide +kernel
theorem kX6_isLetter_f7 : Cond.fieldLink RX6 7 "SignLettersModel" "s" "[I" ∈ wsX6_isLetter := by decide +kernel
set_option maxHeartbeats 400000 in
set_option maxRecDepth 100000 in
theorem mX6_isLetter (G : ZG) (m : Nat) (s1 : Nat) (s2 : Nat) (s3 : Nat) (s4 : Nat) (m1 : Nat) (m2 : Nat) (m3 : Nat) (m4 : Nat) (l1 : Nat) (l2 : Nat) (th : Int) (sm : Int) (len : Int) (ax : Int) (rm : Int) (hs : Bool) (hh : Int64) (S : Int → Int) (p : Int) (hn : 0 ≤ S 7 ∧ S 7 ≤ 20) (hF : okF (sF S) (S 7)) (hp : -2147483648 ≤ p ∧ p < 2147483648) : zMeti yX6_isLetter wsX6_isLetter { frames := 2, cells := 0, slots := 0, locals := 43 } G [.ref m, .int (iI (p))] [(m, .inr (6, [.int (iI (th)), .ref s1, .ref s2, .int (iI (sm)), .ref s3, .int (iI (bI (hs = true))), .ref s4, .int (iI (len)), .ref m1, .ref m2, .ref m3, .ref m4, .int (iI (ax)), .ref l1, .ref l2, .int (iI (rm)), .long (hh)])), (s1, zI G 48 (S))] (fun (rr : Int32) (uu : Unit) => rr = iI (bI (letA (sF S) (S 7) p ≠ -1))) (fun (uu : Unit) => [(m, .inr (6, [.int (iI (th)), .ref s1, .ref s2, .int (iI (sm)), .ref s3, .int (iI (bI (hs = true))), .ref s4, .int (iI (len)), .ref m1, .ref m2, .ref m3, .ref m4, .int (iI (ax)), .ref l1, .ref l2, .int (iI (rm)), .long (hh)])), (s1, zI G 48 (S))]) 0 0 := by
  refine z_meti (cc := cX6_isLetter) (nL := 2) (rt := .boolean) (by decide +kernel) rfl (Nat.le_of_ble_eq_true rfl) (fun X hX ex => ?_)
  have hX : ZOk G X 2 cX6_isLetter RX6 wsX6_isLetter { frames := 2, cells := 0, slots := 0, locals := 43 } := hX
  show Z G X 2 (0) (0) [(m, .inr (6, [.int (iI (th)), .ref s1, .ref s2, .int (iI (sm)), .ref s3, .int (iI (bI (hs = true))), .ref s4, .int (iI (len)), .ref m1, .ref m2, .ref m3, .ref m4, .int (iI (ax)), .ref l1, .ref l2, .int (iI (rm)), .long (hh)])), (s1, zI G 48 (S))] 0 [(0, .ref m), (1, .int (iI (p)))] []
  refine z_aload_n (pc := 0) hX 0 rfl rfl dX6_isLetter_0 ?_
  refine z_iload_n (pc := 1) hX 1 rfl rfl dX6_isLetter_1 ?_
  refine z_callV_i (pc := 2) (As := [.int (iI (p))]) (rest := []) (wc := [(m, .inr (6, [.int (iI (th)), .ref s1, .ref s2, .int (iI (sm)), .ref s3, .int (iI (bI (hs = true))), .ref s4, .int (iI (len)), .ref m1, .ref m2, .ref m3, .ref m4, .int (iI (ax)), .ref l1, .ref l2, .int (iI (rm)), .long (hh)])), (s1, zI G 48 (S))]) (wr := []) hX (mX6_isItem G (m) (s1) (s2) (s3) (s4) (m1) (m2) (m3) (m4) (l1) (l2) (th) (sm) (len) (ax) (rm) (hs) (hh) (S) (p) (by first | assumption | omega | (clear ex hX; grind [uZ])) (by first | assumption | omega | (clear ex hX; grind [uZ]))) rfl rfl rfl (C := RX6) gX6_isLetter_X6_isItem ⟨rfl, hdX6_isItem⟩ (T := TX6) (N := 17) 0 rfl rfl ⟨Nat.le_of_ble_eq_true rfl, Nat.le_of_ble_eq_true rfl⟩ [0, 1] [] rfl rfl (by decide) (by decide) (by decide) rfl (Nat.le_of_ble_eq_true rfl) ⟨Nat.le_of_ble_eq_true rfl, Nat.le_of_ble_eq_true rfl⟩ dX6_isLetter_2 (fun r_1 u_1 h_1 => ?_)
  subst h_1
  show Z G X 2 (0) (0) [(m, .inr (6, [.int (iI (th)), .ref s1, .ref s2, .int (iI (sm)), .ref s3, .int (iI (bI (hs = true))), .ref s4, .int (iI (len)), .ref m1, .ref m2, .ref m3, .ref m4, .int (iI (ax)), .ref l1, .ref l2, .int (iI (rm)), .long (hh)])), (s1, zI G 48 (S))] 5 [(0, .ref m), (1, .int (iI (p)))] [.int (iI (bI (0 ≤ p ∧ p < S 7)))]
  refine z_bif_eq (pc := 5) (tgt := 25) hX (by decide) dX6_isLetter_5 (fun c_2 => ?_) (fun c_2 => ?_)
  · refine z_iconst (pc := 25) hX dX6_isLetter_25 ?_
    exact ex _ _ _ () _ dX6_isLetter_26 (by first | decide +kernel | exact nar_b) (zb0 (by clear ex hX; unfold letA sF at *; grind)) rfl
  · have hf := hF p (by omega) (by omega)
    unfold sF at hf
    refine z_aload_n (pc := 8) hX 0 rfl rfl dX6_isLetter_8 ?_
    refine z_get (pc := 9) hX (T := TX6) (C := RX6) (N := 17) (i := 7) (ref := "SignLettersModel") (name := "s") (desc := "[I") hX6_isLetter_X6 0 rfl rfl 1 (by decide) kX6_isLetter_f7 ⟨rfl, rfl, rfl⟩ (v := .ref s1) rfl dX6_isLetter_9 ?_
    refine z_bipush (pc := 12) hX (z := 8) (by decide +kernel) dX6_isLetter_12 ?_
    refine z_iload_n (pc := 14) hX 1 rfl rfl dX6_isLetter_14 ?_
    refine z_iadd (pc := 15) hX dX6_isLetter_15 ?_
    refine z_iald (pc := 16) hX (N := 48) (F := S) 1 rfl (by omega) (by omega) dX6_isLetter_16 ?_
    refine z_iconst (pc := 17) hX dX6_isLetter_17 ?_
    refine z_icmp_eq (pc := 18) (tgt := 25) hX (by decide) (by omega) (by omega) dX6_isLetter_18 (fun c_3 => ?_) (fun c_3 => ?_)
    · refine z_iconst (pc := 25) hX dX6_isLetter_25 ?_
      exact ex _ _ _ () _ dX6_isLetter_26 (by first | decide +kernel | exact nar_b) (zb0 (by clear ex hX; unfold letA sF at *; grind)) rfl
    · refine z_iconst (pc := 21) hX dX6_isLetter_21 ?_
      refine z_goto (pc := 22) (tgt := 26) hX (by decide) dX6_isLetter_22 ?_
      exact ex _ _ _ () _ dX6_isLetter_26 (by first | decide +kernel | exact nar_b) (zb1 (by clear ex hX; unfold letA sF at *; grind)) rfl
set_option maxHeartbeats 400000 in
set_option maxRecDepth 100000 in
theorem mX6_widthOf (G : ZG) (x : Int) (hx : 0 ≤ x ∧ x < 26) : zMeti yX6_widthOf wsX6_widthOf { frames := 0, cells := 0, slots := 0, locals := 0 } G [.int (iI (x))] [] (fun (rr : Int32) (uu : Unit) => rr = iI (wdI x)) (fun (uu : Unit) => []) 0 0 := by
  refine z_meti (cc := cX6_widthOf) (nL := 1) (rt := .int) (by decide +kernel) rfl (Nat.le_of_ble_eq_true rfl) (fun X hX ex => ?_)
  have hX : ZOk G X 1 cX6_widthOf RX6 wsX6_widthOf { frames := 0, cells := 0, slots := 0, locals := 0 } := hX
  show Z G X 1 (0) (0) [] 0 [(0, .int (iI (x)))] []
  refine z_bipush (pc := 0) hX (z := 6) (by decide +kernel) dX6_widthOf_0 ?_
  refine z_bipush (pc := 2) hX (z := 7) (by decide +kernel) dX6_widthOf_2 ?_
  refine z_iload_n (pc := 4) hX 0 rfl rfl dX6_widthOf_4 ?_
  refine z_imul (pc := 5) hX dX6_widthOf_5 ?_
  refine z_bipush (pc := 6) hX (z := 9) (by decide +kernel) dX6_widthOf_6 ?_
  refine z_irem (pc := 8) hX (by omega) (by omega) dX6_widthOf_8 ?_
  refine z_iadd (pc := 9) hX dX6_widthOf_9 ?_
  exact ex _ _ _ () _ dX6_widthOf_10 rfl (congrArg iI (show (6 + ((7 * x) % 9) : Int) = wdI x from by rfl)) rfl
set_option maxHeartbeats 400000 in
set_option maxRecDepth 100000 in
theorem mX6_leftShape (G : ZG) (x : Int) (hx : 0 ≤ x ∧ x < 26) : zMeti yX6_leftShape wsX6_leftShape { frames := 0, cells := 0, slots := 0, locals := 0 } G [.int (iI (x))] [] (fun (rr : Int32) (uu : Unit) => rr = iI (x % 4)) (fun (uu : Unit) => []) 0 0 := by
  refine z_meti (cc := cX6_leftShape) (nL := 1) (rt := .int) (by decide +kernel) rfl (Nat.le_of_ble_eq_true rfl) (fun X hX ex => ?_)
  have hX : ZOk G X 1 cX6_leftShape RX6 wsX6_leftShape { frames := 0, cells := 0, slots := 0, locals := 0 } := hX
  show Z G X 1 (0) (0) [] 0 [(0, .int (iI (x)))] []
  refine z_iload_n (pc := 0) hX 0 rfl rfl dX6_leftShape_0 ?_
  refine z_iconst (pc := 1) hX dX6_leftShape_1 ?_
  refine z_irem (pc := 2) hX (by omega) (by omega) dX6_leftShape_2 ?_
  exact ex _ _ _ () _ dX6_leftShape_3 rfl rfl rfl
set_option maxHeartbeats 400000 in
set_option maxRecDepth 100000 in
theorem mX6_rightShape (G : ZG) (x : Int) (hx : 0 ≤ x ∧ x < 26) : zMeti yX6_rightShape wsX6_rightShape { frames := 0, cells := 0, slots := 0, locals := 0 } G [.int (iI (x))] [] (fun (rr : Int32) (uu : Unit) => rr = iI ((3 * x + 1) % 4)) (fun (uu : Unit) => []) 0 0 := by
  refine z_meti (cc := cX6_rightShape) (nL := 1) (rt := .int) (by decide +kernel) rfl (Nat.le_of_ble_eq_true rfl) (fun X hX ex => ?_)
  have hX : ZOk G X 1 cX6_rightShape RX6 wsX6_rightShape { frames := 0, cells := 0, slots := 0, locals := 0 } := hX
  show Z G X 1 (0) (0) [] 0 [(0, .int (iI (x)))] []
  refine z_iconst (pc := 0) hX dX6_rightShape_0 ?_
  refine z_iload_n (pc := 1) hX 0 rfl rfl dX6_rightShape_1 ?_
  refine z_imul (pc := 2) hX dX6_rightShape_2 ?_
  refine z_iconst (pc := 3) hX dX6_rightShape_3 ?_
  refine z_iadd (pc := 4) hX dX6_rightShape_4 ?_
  refine z_iconst (pc := 5) hX dX6_rightShape_5 ?_
  refine z_irem (pc := 6) hX (by omega) (by omega) dX6_rightShape_6 ?_
  exact ex _ _ _ () _ dX6_rightShape_7 rfl (congrArg iI (show (((3 * x) + 1) % 4 : Int) = (3 * x + 1) % 4 from by rfl)) rfl
theorem hX6_back_X6 : ∀ w ∈ wsX60, w ∈ wsX6_back := by decide +kernel
theorem hdX6_size : yX6_size.cls ≠ "java/lang/invoke/MethodHandle" ∧ yX6_size.cls ≠ "java/lang/invoke/VarHandle" ∧ (parseMethodDescriptor yX6_size.desc).map (fun d => d.parameters.length) = some 1 := by decide +kernel
theorem kX6_back_f7 : Cond.fieldLink RX6 7 "SignLettersModel" "s" "[I" ∈ wsX6_back := by decide +kernel
set_option maxHeartbeats 400000 in
set_option maxRecDepth 100000 in
theorem mX6_back (G : ZG) (m : Nat) (s1 : Nat) (s2 : Nat) (s3 : Nat) (s4 : Nat) (m1 : Nat) (m2 : Nat) (m3 : Nat) (m4 : Nat) (l1 : Nat) (l2 : Nat) (th : Int) (sm : Int) (len : Int) (ax : Int) (rm : Int) (hs : Bool) (hh : Int64) (S : Int → Int) (s : Int) (q : Int) (hE : okE S) (hs9 : 0 ≤ s ∧ s < 4) (hq : 0 ≤ q ∧ q < 10) : zMeti yX6_back wsX6_back { frames := 1, cells := 0, slots := 0, locals := 22 } G [.ref m, .int (iI (s)), .int (iI (q))] [(m, .inr (6, [.int (iI (th)), .ref s1, .ref s2, .int (iI (sm)), .ref s3, .int (iI (bI (hs = true))), .ref s4, .int (iI (len)), .ref m1, .ref m2, .ref m3, .ref m4, .int (iI (ax)), .ref l1, .ref l2, .int (iI (rm)), .long (hh)])), (s1, zI G 48 (S))] (fun (rr : Int32) (uu : Unit) => rr = iI (bIn s q (S 0))) (fun (uu : Unit) => [(m, .inr (6, [.int (iI (th)), .ref s1, .ref s2, .int (iI (sm)), .ref s3, .int (iI (bI (hs = true))), .ref s4, .int (iI (len)), .ref m1, .ref m2, .ref m3, .ref m4, .int (iI (ax)), .ref l1, .ref l2, .int (iI (rm)), .long (hh)])), (s1, zI G 48 (S))]) 0 0 := by
  refine z_meti (cc := cX6_back) (nL := 5) (rt := .int) (by decide +kernel) rfl (Nat.le_of_ble_eq_true rfl) (fun X hX ex => ?_)
  have hX : ZOk G X 5 cX6_back RX6 wsX6_back { frames := 1, cells := 0, slots := 0, locals := 22 } := hX
  show Z G X 5 (0) (0) [(m, .inr (6, [.int (iI (th)), .ref s1, .ref s2, .int (iI (sm)), .ref s3, .int (iI (bI (hs = true))), .ref s4, .int (iI (len)), .ref m1, .ref m2, .ref m3, .ref m4, .int (iI (ax)), .ref l1, .ref l2, .int (iI (rm)), .long (hh)])), (s1, zI G 48 (S))] 0 [(0, .ref m), (1, .int (iI (s))), (2, .int (iI (q)))] []
  have h0E := okE_0 hE
  have hq9 := pIn_r s q hq
  have cut_50 : Z G X 5 (0) (0) [(m, .inr (6, [.int (iI (th)), .ref s1, .ref s2, .int (iI (sm)), .ref s3, .int (iI (bI (hs = true))), .ref s4, .int (iI (len)), .ref m1, .ref m2, .ref m3, .ref m4, .int (iI (ax)), .ref l1, .ref l2, .int (iI (rm)), .long (hh)])), (s1, zI G 48 (S))] 50 [(0, .ref m), (1, .int (iI (s))), (2, .int (iI (q)))] [.int (iI (pIn s q))] := by
    refine z_istore_n (pc := 50) hX (loc' := [(3, .int (iI (pIn s q))), (0, .ref m), (1, .int (iI (s))), (2, .int (iI (q)))]) rfl (by decide) rfl dX6_back_50 ?_
    refine z_iload_n (pc := 51) hX 3 rfl rfl dX6_back_51 ?_
    refine z_if_eq (pc := 52) (tgt := 61) hX (by decide) (by omega) dX6_back_52 (fun c_1 => ?_) (fun c_1 => ?_)
    · refine z_iload_n (pc := 61) hX 0 rfl rfl dX6_back_61 ?_
      refine z_aload_n (pc := 62) hX 1 rfl rfl dX6_back_62 ?_
      refine z_get (pc := 63) hX (T := TX6) (C := RX6) (N := 17) (i := 7) (ref := "SignLettersModel") (name := "s") (desc := "[I") hX6_back_X6 0 rfl rfl 1 (by decide) kX6_back_f7 ⟨rfl, rfl, rfl⟩ (v := .ref s1) rfl dX6_back_63 ?_
      refine z_iconst (pc := 66) hX dX6_back_66 ?_
      refine z_iald (pc := 67) hX (N := 48) (F := S) 1 rfl (by omega) (by omega) dX6_back_67 ?_
      refine z_isub (pc := 68) hX dX6_back_68 ?_
      refine z_goto (pc := 69) (tgt := 73) hX (by decide) dX6_back_69 ?_
      refine z_istore (pc := 73) hX (loc' := [(4, .int (iI ((pIn s q) - (S 0)))), (3, .int (iI (pIn s q))), (0, .ref m), (1, .int (iI (s))), (2, .int (iI (q)))]) (by decide) rfl dX6_back_73 ?_
      refine z_iload (pc := 75) hX 0 rfl dX6_back_75 ?_
      refine z_if_ge (pc := 77) (tgt := 84) hX (by decide) (by omega) dX6_back_77 (fun c_2 => ?_) (fun c_2 => ?_)
      · refine z_iload (pc := 84) hX 0 rfl dX6_back_84 ?_
        exact ex _ _ _ () _ dX6_back_86 rfl (congrArg iI (show ((pIn s q) - (S 0) : Int) = bIn s q (S 0) from by clear ex hX; unfold bIn; first | omega | grind)) rfl
      · refine z_iconst (pc := 80) hX dX6_back_80 ?_
        refine z_goto (pc := 81) (tgt := 86) hX (by decide) dX6_back_81 ?_
        exact ex _ _ _ () _ dX6_back_86 rfl (congrArg iI (show (0 : Int) = bIn s q (S 0) from by clear ex hX; unfold bIn; first | omega | grind)) rfl
    · refine z_iload_n (pc := 55) hX 3 rfl rfl dX6_back_55 ?_
      refine z_bipush (pc := 56) hX (z := 9) (by decide +kernel) dX6_back_56 ?_
      refine z_icmp_ne (pc := 58) (tgt := 72) hX (by decide) (by omega) (by omega) dX6_back_58 (fun c_3 => ?_) (fun c_3 => ?_)
      · refine z_iload_n (pc := 72) hX 0 rfl rfl dX6_back_72 ?_
        refine z_istore (pc := 73) hX (loc' := [(4, .int (iI (pIn s q))), (3, .int (iI (pIn s q))), (0, .ref m), (1, .int (iI (s))), (2, .int (iI (q)))]) (by decide) rfl dX6_back_73 ?_
        refine z_iload (pc := 75) hX 0 rfl dX6_back_75 ?_
        refine z_if_ge (pc := 77) (tgt := 84) hX (by decide) (by omega) dX6_back_77 (fun c_4 => ?_) (fun c_4 => ?_)
        · refine z_iload (pc := 84) hX 0 rfl dX6_back_84 ?_
          exact ex _ _ _ () _ dX6_back_86 rfl (congrArg iI (show (pIn s q : Int) = bIn s q (S 0) from by clear ex hX; unfold bIn; first | omega | grind)) rfl
        · refine z_iconst (pc := 80) hX dX6_back_80 ?_
          refine z_goto (pc := 81) (tgt := 86) hX (by decide) dX6_back_81 ?_
          exact ex _ _ _ () _ dX6_back_86 rfl (congrArg iI (show (0 : Int) = bIn s q (S 0) from by clear ex hX; unfold bIn; first | omega | grind)) rfl
      · refine z_iload_n (pc := 61) hX 0 rfl rfl dX6_back_61 ?_
        refine z_aload_n (pc := 62) hX 1 rfl rfl dX6_back_62 ?_
        refine z_get (pc := 63) hX (T := TX6) (C := RX6) (N := 17) (i := 7) (ref := "SignLettersModel") (name := "s") (desc := "[I") hX6_back_X6 0 rfl rfl 1 (by decide) kX6_back_f7 ⟨rfl, rfl, rfl⟩ (v := .ref s1) rfl dX6_back_63 ?_
        refine z_iconst (pc := 66) hX dX6_back_66 ?_
        refine z_iald (pc := 67) hX (N := 48) (F := S) 1 rfl (by omega) (by omega) dX6_back_67 ?_
        refine z_isub (pc := 68) hX dX6_back_68 ?_
        refine z_goto (pc := 69) (tgt := 73) hX (by decide) dX6_back_69 ?_
        refine z_istore (pc := 73) hX (loc' := [(4, .int (iI ((pIn s q) - (S 0)))), (3, .int (iI (pIn s q))), (0, .ref m), (1, .int (iI (s))), (2, .int (iI (q)))]) (by decide) rfl dX6_back_73 ?_
        refine z_iload (pc := 75) hX 0 rfl dX6_back_75 ?_
        refine z_if_ge (pc := 77) (tgt := 84) hX (by decide) (by omega) dX6_back_77 (fun c_5 => ?_) (fun c_5 => ?_)
        · refine z_iload (pc := 84) hX 0 rfl dX6_back_84 ?_
          exact ex _ _ _ () _ dX6_back_86 rfl (congrArg iI (show ((pIn s q) - (S 0) : Int) = bIn s q (S 0) from by clear ex hX; unfold bIn; first | omega | grind)) rfl
        · refine z_iconst (pc := 80) hX dX6_back_80 ?_
          refine z_goto (pc := 81) (tgt := 86) hX (by decide) dX6_back_81 ?_
          exact ex _ _ _ () _ dX6_back_86 rfl (congrArg iI (show (0 : Int) = bIn s q (S 0) from by clear ex hX; unfold bIn; first | omega | grind)) rfl
  refine z_iload_n (pc := 0) hX 1 rfl rfl dX6_back_0 ?_
  refine z_iconst (pc := 1) hX dX6_back_1 ?_
  refine z_icmp_ne (pc := 2) (tgt := 19) hX (by decide) (by omega) (by omega) dX6_back_2 (fun c_6 => ?_) (fun c_6 => ?_)
  · refine z_iload_n (pc := 19) hX 1 rfl rfl dX6_back_19 ?_
    refine z_iconst (pc := 20) hX dX6_back_20 ?_
    refine z_icmp_ne (pc := 21) (tgt := 30) hX (by decide) (by omega) (by omega) dX6_back_21 (fun c_7 => ?_) (fun c_7 => ?_)
    · refine z_iload_n (pc := 30) hX 1 rfl rfl dX6_back_30 ?_
      refine z_iconst (pc := 31) hX dX6_back_31 ?_
      refine z_icmp_ne (pc := 32) (tgt := 49) hX (by decide) (by omega) (by omega) dX6_back_32 (fun c_8 => ?_) (fun c_8 => ?_)
      · refine z_iconst (pc := 49) hX dX6_back_49 ?_
        refine (congrArg (fun z_ : Int => Z G X 5 (0) (0) [(m, .inr (6, [.int (iI (th)), .ref s1, .ref s2, .int (iI (sm)), .ref s3, .int (iI (bI (hs = true))), .ref s4, .int (iI (len)), .ref m1, .ref m2, .ref m3, .ref m4, .int (iI (ax)), .ref l1, .ref l2, .int (iI (rm)), .long (hh)])), (s1, zI G 48 (S))] 50 [(0, .ref m), (1, .int (iI (s))), (2, .int (iI (q)))] [.int (iI (z_))]) (show (0 : Int) = pIn s q from by clear ex hX cut_50; unfold pIn; first | omega | grind)).mpr ?_
        refine z_at [0, 1, 2] [0, 1] (loc' := [(0, .ref m), (1, .int (iI (s))), (2, .int (iI (q)))]) (WS' := [(m, .inr (6, [.int (iI (th)), .ref s1, .ref s2, .int (iI (sm)), .ref s3, .int (iI (bI (hs = true))), .ref s4, .int (iI (len)), .ref m1, .ref m2, .ref m3, .ref m4, .int (iI (ax)), .ref l1, .ref l2, .int (iI (rm)), .long (hh)])), (s1, zI G 48 (S))]) rfl (by decide) rfl ?_
        exact cut_50
      · refine z_iload_n (pc := 35) hX 2 rfl rfl dX6_back_35 ?_
        refine z_iconst (pc := 36) hX dX6_back_36 ?_
        refine z_bipush (pc := 37) hX (z := 6) (by decide +kernel) dX6_back_37 ?_
        refine z_callS_i (pc := 39) (As := [.int (iI (q)), .int (iI (3)), .int (iI (6))]) (rest := []) (wc := []) (wr := [(m, .inr (6, [.int (iI (th)), .ref s1, .ref s2, .int (iI (sm)), .ref s3, .int (iI (bI (hs = true))), .ref s4, .int (iI (len)), .ref m1, .ref m2, .ref m3, .ref m4, .int (iI (ax)), .ref l1, .ref l2, .int (iI (rm)), .long (hh)])), (s1, zI G 48 (S))]) hX (mX6_in G (q) (3) (6) (by first | assumption | omega | (clear ex hX cut_50; grind [uZ])) (by first | assumption | omega | (clear ex hX cut_50; grind [uZ])) (by first | assumption | omega | (clear ex hX cut_50; grind [uZ]))) rfl rfl rfl gX6_back_X6_in hdX6_in ⟨Nat.le_of_ble_eq_true rfl, Nat.le_of_ble_eq_true rfl⟩ [] [0, 1] rfl rfl (by decide) (by decide) (by decide) rfl (Nat.le_of_ble_eq_true rfl) ⟨Nat.le_of_ble_eq_true rfl, Nat.le_of_ble_eq_true rfl⟩ dX6_back_39 (fun r_9 u_9 h_9 => ?_)
        subst h_9
        show Z G X 5 (0) (0) [(m, .inr (6, [.int (iI (th)), .ref s1, .ref s2, .int (iI (sm)), .ref s3, .int (iI (bI (hs = true))), .ref s4, .int (iI (len)), .ref m1, .ref m2, .ref m3, .ref m4, .int (iI (ax)), .ref l1, .ref l2, .int (iI (rm)), .long (hh)])), (s1, zI G 48 (S))] 42 [(0, .ref m), (1, .int (iI (s))), (2, .int (iI (q)))] [.int (iI (bI (3 ≤ q ∧ q ≤ 6)))]
        refine z_bif_eq (pc := 42) (tgt := 49) hX (by decide) dX6_back_42 (fun c_10 => ?_) (fun c_10 => ?_)
        · refine z_iconst (pc := 49) hX dX6_back_49 ?_
          refine (congrArg (fun z_ : Int => Z G X 5 (0) (0) [(m, .inr (6, [.int (iI (th)), .ref s1, .ref s2, .int (iI (sm)), .ref s3, .int (iI (bI (hs = true))), .ref s4, .int (iI (len)), .ref m1, .ref m2, .ref m3, .ref m4, .int (iI (ax)), .ref l1, .ref l2, .int (iI (rm)), .long (hh)])), (s1, zI G 48 (S))] 50 [(0, .ref m), (1, .int (iI (s))), (2, .int (iI (q)))] [.int (iI (z_))]) (show (0 : Int) = pIn s q from by clear ex hX cut_50; unfold pIn; first | omega | grind)).mpr ?_
          refine z_at [0, 1, 2] [0, 1] (loc' := [(0, .ref m), (1, .int (iI (s))), (2, .int (iI (q)))]) (WS' := [(m, .inr (6, [.int (iI (th)), .ref s1, .ref s2, .int (iI (sm)), .ref s3, .int (iI (bI (hs = true))), .ref s4, .int (iI (len)), .ref m1, .ref m2, .ref m3, .ref m4, .int (iI (ax)), .ref l1, .ref l2, .int (iI (rm)), .long (hh)])), (s1, zI G 48 (S))]) rfl (by decide) rfl ?_
          exact cut_50
        · refine z_iconst (pc := 45) hX dX6_back_45 ?_
          refine z_goto (pc := 46) (tgt := 50) hX (by decide) dX6_back_46 ?_
          refine (congrArg (fun z_ : Int => Z G X 5 (0) (0) [(m, .inr (6, [.int (iI (th)), .ref s1, .ref s2, .int (iI (sm)), .ref s3, .int (iI (bI (hs = true))), .ref s4, .int (iI (len)), .ref m1, .ref m2, .ref m3, .ref m4, .int (iI (ax)), .ref l1, .ref l2, .int (iI (rm)), .long (hh)])), (s1, zI G 48 (S))] 50 [(0, .ref m), (1, .int (iI (s))), (2, .int (iI (q)))] [.int (iI (z_))]) (show (4 : Int) = pIn s q from by clear ex hX cut_50; unfold pIn; first | omega | grind)).mpr ?_
          refine z_at [0, 1, 2] [0, 1] (loc' := [(0, .ref m), (1, .int (iI (s))), (2, .int (iI (q)))]) (WS' := [(m, .inr (6, [.int (iI (th)), .ref s1, .ref s2, .int (iI (sm)), .ref s3, .int (iI (bI (hs = true))), .ref s4, .int (iI (len)), .ref m1, .ref m2, .ref m3, .ref m4, .int (iI (ax)), .ref l1, .ref l2, .int (iI (rm)), .long (hh)])), (s1, zI G 48 (S))]) rfl (by decide) rfl ?_
          exact cut_50
    · refine z_iload_n (pc := 24) hX 2 rfl rfl dX6_back_24 ?_
      refine z_iconst (pc := 25) hX dX6_back_25 ?_
      refine z_idiv (pc := 26) hX (by omega) (by omega) dX6_back_26 ?_
      refine z_goto (pc := 27) (tgt := 50) hX (by decide) dX6_back_27 ?_
      refine (congrArg (fun z_ : Int => Z G X 5 (0) (0) [(m, .inr (6, [.int (iI (th)), .ref s1, .ref s2, .int (iI (sm)), .ref s3, .int (iI (bI (hs = true))), .ref s4, .int (iI (len)), .ref m1, .ref m2, .ref m3, .ref m4, .int (iI (ax)), .ref l1, .ref l2, .int (iI (rm)), .long (hh)])), (s1, zI G 48 (S))] 50 [(0, .ref m), (1, .int (iI (s))), (2, .int (iI (q)))] [.int (iI (z_))]) (show (q / 2 : Int) = pIn s q from by clear ex hX cut_50; unfold pIn; first | omega | grind)).mpr ?_
      refine z_at [0, 1, 2] [0, 1] (loc' := [(0, .ref m), (1, .int (iI (s))), (2, .int (iI (q)))]) (WS' := [(m, .inr (6, [.int (iI (th)), .ref s1, .ref s2, .int (iI (sm)), .ref s3, .int (iI (bI (hs = true))), .ref s4, .int (iI (len)), .ref m1, .ref m2, .ref m3, .ref m4, .int (iI (ax)), .ref l1, .ref l2, .int (iI (rm)), .long (hh)])), (s1, zI G 48 (S))]) rfl (by decide) rfl ?_
      exact cut_50
  · refine z_iconst (pc := 5) hX dX6_back_5 ?_
    refine z_iload_n (pc := 6) hX 2 rfl rfl dX6_back_6 ?_
    refine z_imul (pc := 7) hX dX6_back_7 ?_
    refine z_bipush (pc := 8) hX (z := 9) (by decide +kernel) dX6_back_8 ?_
    refine z_isub (pc := 10) hX dX6_back_10 ?_
    refine z_callS_i (pc := 11) (As := [.int (iI ((2 * q) - 9))]) (rest := []) (wc := []) (wr := [(m, .inr (6, [.int (iI (th)), .ref s1, .ref s2, .int (iI (sm)), .ref s3, .int (iI (bI (hs = true))), .ref s4, .int (iI (len)), .ref m1, .ref m2, .ref m3, .ref m4, .int (iI (ax)), .ref l1, .ref l2, .int (iI (rm)), .long (hh)])), (s1, zI G 48 (S))]) hX (mX6_size G ((2 * q) - 9) (by first | assumption | omega | (clear ex hX cut_50; grind [uZ]))) rfl rfl rfl gX6_back_X6_size hdX6_size ⟨Nat.le_of_ble_eq_true rfl, Nat.le_of_ble_eq_true rfl⟩ [] [0, 1] rfl rfl (by decide) (by decide) (by decide) rfl (Nat.le_of_ble_eq_true rfl) ⟨Nat.le_of_ble_eq_true rfl, Nat.le_of_ble_eq_true rfl⟩ dX6_back_11 (fun r_11 u_11 h_11 => ?_)
    subst h_11
    show Z G X 5 (0) (0) [(m, .inr (6, [.int (iI (th)), .ref s1, .ref s2, .int (iI (sm)), .ref s3, .int (iI (bI (hs = true))), .ref s4, .int (iI (len)), .ref m1, .ref m2, .ref m3, .ref m4, .int (iI (ax)), .ref l1, .ref l2, .int (iI (rm)), .long (hh)])), (s1, zI G 48 (S))] 14 [(0, .ref m), (1, .int (iI (s))), (2, .int (iI (q)))] [.int (iI (if ((2 * q) - 9) < 0 then -((2 * q) - 9) else ((2 * q) - 9)))]
    refine z_iconst (pc := 14) hX dX6_back_14 ?_
    refine z_idiv (pc := 15) hX (by omega) (by omega) dX6_back_15 ?_
    refine z_goto (pc := 16) (tgt := 50) hX (by decide) dX6_back_16 ?_
    refine (congrArg (fun z_ : Int => Z G X 5 (0) (0) [(m, .inr (6, [.int (iI (th)), .ref s1, .ref s2, .int (iI (sm)), .ref s3, .int (iI (bI (hs = true))), .ref s4, .int (iI (len)), .ref m1, .ref m2, .ref m3, .ref m4, .int (iI (ax)), .ref l1, .ref l2, .int (iI (rm)), .long (hh)])), (s1, zI G 48 (S))] 50 [(0, .ref m), (1, .int (iI (s))), (2, .int (iI (q)))] [.int (iI (z_))]) (show ((if ((2 * q) - 9) < 0 then -((2 * q) - 9) else ((2 * q) - 9)) / 2 : Int) = pIn s q from by clear ex hX cut_50; unfold pIn; first | omega | grind)).mpr ?_
    refine z_at [0, 1, 2] [0, 1] (loc' := [(0, .ref m), (1, .int (iI (s))), (2, .int (iI (q)))]) (WS' := [(m, .inr (6, [.int (iI (th)), .ref s1, .ref s2, .int (iI (sm)), .ref s3, .int (iI (bI (hs = true))), .ref s4, .int (iI (len)), .ref m1, .ref m2, .ref m3, .ref m4, .int (iI (ax)), .ref l1, .ref l2, .int (iI (rm)), .long (hh)])), (s1, zI G 48 (S))]) rfl (by decide) rfl ?_
    exact cut_50
theorem hX6_area_X6 : ∀ w ∈ wsX60, w ∈ wsX6_area := by decide +kernel
theorem hdX6_back : yX6_back.cls ≠ "java/lang/invoke/MethodHandle" ∧ yX6_back.cls ≠ "java/lang/invoke/VarHandle" ∧ (parseMethodDescriptor yX6_back.desc).map (fun d => d.parameters.length) = some 2 := by decide +kernel
theorem hdX6_leftShape : yX6_leftShape.cls ≠ "java/lang/invoke/MethodHandle" ∧ yX6_leftShape.cls ≠ "java/lang/invoke/VarHandle" ∧ (parseMethodDescriptor yX6_leftShape.desc).map (fun d => d.parameters.length) = some 1 := by decide +kernel
theorem hdX6_rightShape : yX6_rightShape.cls ≠ "java/lang/invoke/MethodHandle" ∧ yX6_rightShape.cls ≠ "java/lang/invoke/VarHandle" ∧ (parseMethodDescriptor yX6_rightShape.desc).map (fun d => d.parameters.length) = some 1 := by decide +kernel
theorem kX6_area_f7 : Cond.fieldLink RX6 7 "SignLettersModel" "s" "[I" ∈ wsX6_area := by decide +kernel
set_option maxHeartbeats 400000 in
set_option maxRecDepth 100000 in
theorem mX6_area (G : ZG) (m : Nat) (s1 : Nat) (s2 : Nat) (s3 : Nat) (s4 : Nat) (m1 : Nat) (m2 : Nat) (m3 : Nat) (m4 : Nat) (l1 : Nat) (l2 : Nat) (th : Int) (sm : Int) (len : Int) (ax : Int) (rm : Int) (hs : Bool) (hh : Int64) (S : Int → Int) (a : Int) (b : Int) (g : Int) (hE : okE S) (ha : 0 ≤ a ∧ a < 26) (hb : 0 ≤ b ∧ b < 26) (hg : 0 ≤ g ∧ g ≤ 1000) : zMeti yX6_area wsX6_area { frames := 2, cells := 0, slots := 0, locals := 46 } G [.ref m, .int (iI (a)), .int (iI (b)), .int (iI (g))] [(m, .inr (6, [.int (iI (th)), .ref s1, .ref s2, .int (iI (sm)), .ref s3, .int (iI (bI (hs = true))), .ref s4, .int (iI (len)), .ref m1, .ref m2, .ref m3, .ref m4, .int (iI (ax)), .ref l1, .ref l2, .int (iI (rm)), .long (hh)])), (s1, zI G 48 (S))] (fun (rr : Int32) (uu : Unit) => rr = iI (arS (inZ S a b) (S 1) g)) (fun (uu : Unit) => [(m, .inr (6, [.int (iI (th)), .ref s1, .ref s2, .int (iI (sm)), .ref s3, .int (iI (bI (hs = true))), .ref s4, .int (iI (len)), .ref m1, .ref m2, .ref m3, .ref m4, .int (iI (ax)), .ref l1, .ref l2, .int (iI (rm)), .long (hh)])), (s1, zI G 48 (S))]) 0 0 := by
  refine z_meti (cc := cX6_area) (nL := 7) (rt := .int) (by decide +kernel) rfl (Nat.le_of_ble_eq_true rfl) (fun X hX ex => ?_)
  have hX : ZOk G X 7 cX6_area RX6 wsX6_area { frames := 2, cells := 0, slots := 0, locals := 46 } := hX
  show Z G X 7 (0) (0) [(m, .inr (6, [.int (iI (th)), .ref s1, .ref s2, .int (iI (sm)), .ref s3, .int (iI (bI (hs = true))), .ref s4, .int (iI (len)), .ref m1, .ref m2, .ref m3, .ref m4, .int (iI (ax)), .ref l1, .ref l2, .int (iI (rm)), .long (hh)])), (s1, zI G 48 (S))] 0 [(0, .ref m), (1, .int (iI (a))), (2, .int (iI (b))), (3, .int (iI (g)))] []
  have h1E := okE_1 hE
  have h0E := okE_0 hE
  refine z_iconst (pc := 0) hX dX6_area_0 ?_
  refine z_istore (pc := 1) hX (loc' := [(4, .int (iI (0))), (0, .ref m), (1, .int (iI (a))), (2, .int (iI (b))), (3, .int (iI (g)))]) (by decide) rfl dX6_area_1 ?_
  refine z_iconst (pc := 3) hX dX6_area_3 ?_
  refine z_istore (pc := 4) hX (loc' := [(5, .int (iI (0))), (4, .int (iI (0))), (0, .ref m), (1, .int (iI (a))), (2, .int (iI (b))), (3, .int (iI (g)))]) (by decide) rfl dX6_area_4 ?_
  have cut_6 : ∀ (fz : Nat) (i : Int) (c : Int) (h0 : 0 ≤ i) (h1 : i ≤ 10) (hc : c = sumZ (arF (inZ S a b) (S 1) g) i.toNat) (hm_6 : 10 - i < (fz : Int)), Z G X 7 (0) (0) [(m, .inr (6, [.int (iI (th)), .ref s1, .ref s2, .int (iI (sm)), .ref s3, .int (iI (bI (hs = true))), .ref s4, .int (iI (len)), .ref m1, .ref m2, .ref m3, .ref m4, .int (iI (ax)), .ref l1, .ref l2, .int (iI (rm)), .long (hh)])), (s1, zI G 48 (S))] 6 [(0, .ref m), (1, .int (iI (a))), (2, .int (iI (b))), (3, .int (iI (g))), (4, .int (iI (c))), (5, .int (iI (i)))] [] := by
    intro fz
    induction fz with
    | zero =>
      intro i c h0 h1 hc hm_6
      exfalso
      omega
    | succ fz ih =>
      intro i c h0 h1 hc hm_6
      have ih_6 := ih
      clear ih
      refine z_iload (pc := 6) hX 5 rfl dX6_area_6 ?_
      refine z_bipush (pc := 8) hX (z := 10) (by decide +kernel) dX6_area_8 ?_
      refine z_icmp_ge (pc := 10) (tgt := 71) hX (by decide) (by omega) (by omega) dX6_area_10 (fun c_1 => ?_) (fun c_1 => ?_)
      · refine z_iload (pc := 71) hX 4 rfl dX6_area_71 ?_
        exact ex _ _ _ () _ dX6_area_73 rfl (congrArg iI (show (c : Int) = arS (inZ S a b) (S 1) g from by rw [hc, show i = 10 by omega]; rfl)) rfl
      · have hb1 := bIn_r ((3 * a + 1) % 4) i (S 0) ⟨h0, by omega⟩ h0E.1
        have hb2 := bIn_r (b % 4) i (S 0) ⟨h0, by omega⟩ h0E.1
        refine z_iload_n (pc := 13) hX 3 rfl rfl dX6_area_13 ?_
        refine z_aload_n (pc := 14) hX 0 rfl rfl dX6_area_14 ?_
        refine z_iload_n (pc := 15) hX 1 rfl rfl dX6_area_15 ?_
        refine z_callS_i (pc := 16) (As := [.int (iI (a))]) (rest := [.ref m, .int (iI (g))]) (wc := []) (wr := [(m, .inr (6, [.int (iI (th)), .ref s1, .ref s2, .int (iI (sm)), .ref s3, .int (iI (bI (hs = true))), .ref s4, .int (iI (len)), .ref m1, .ref m2, .ref m3, .ref m4, .int (iI (ax)), .ref l1, .ref l2, .int (iI (rm)), .long (hh)])), (s1, zI G 48 (S))]) hX (mX6_rightShape G (a) (by first | assumption | omega | (clear ex hX ih_6; grind [uZ]))) rfl rfl rfl gX6_area_X6_rightShape hdX6_rightShape ⟨Nat.le_of_ble_eq_true rfl, Nat.le_of_ble_eq_true rfl⟩ [] [0, 1] rfl rfl (by decide) (by decide) (by decide) rfl (Nat.le_of_ble_eq_true rfl) ⟨Nat.le_of_ble_eq_true rfl, Nat.le_of_ble_eq_true rfl⟩ dX6_area_16 (fun r_2 u_2 h_2 => ?_)
        subst h_2
        show Z G X 7 (0) (0) [(m, .inr (6, [.int (iI (th)), .ref s1, .ref s2, .int (iI (sm)), .ref s3, .int (iI (bI (hs = true))), .ref s4, .int (iI (len)), .ref m1, .ref m2, .ref m3, .ref m4, .int (iI (ax)), .ref l1, .ref l2, .int (iI (rm)), .long (hh)])), (s1, zI G 48 (S))] 19 [(0, .ref m), (1, .int (iI (a))), (2, .int (iI (b))), (3, .int (iI (g))), (4, .int (iI (c))), (5, .int (iI (i)))] [.int (iI ((3 * a + 1) % 4)), .ref m, .int (iI (g))]
        refine z_iload (pc := 19) hX 5 rfl dX6_area_19 ?_
        refine z_callV_i (pc := 21) (As := [.int (iI ((3 * a + 1) % 4)), .int (iI (i))]) (rest := [.int (iI (g))]) (wc := [(m, .inr (6, [.int (iI (th)), .ref s1, .ref s2, .int (iI (sm)), .ref s3, .int (iI (bI (hs = true))), .ref s4, .int (iI (len)), .ref m1, .ref m2, .ref m3, .ref m4, .int (iI (ax)), .ref l1, .ref l2, .int (iI (rm)), .long (hh)])), (s1, zI G 48 (S))]) (wr := []) hX (mX6_back G (m) (s1) (s2) (s3) (s4) (m1) (m2) (m3) (m4) (l1) (l2) (th) (sm) (len) (ax) (rm) (hs) (hh) (S) ((3 * a + 1) % 4) (i) (by first | assumption | omega | (clear ex hX ih_6; grind [uZ])) (by first | assumption | omega | (clear ex hX ih_6; grind [uZ])) (by first | assumption | omega | (clear ex hX ih_6; grind [uZ]))) rfl rfl rfl (C := RX6) gX6_area_X6_back ⟨rfl, hdX6_back⟩ (T := TX6) (N := 17) 0 rfl rfl ⟨Nat.le_of_ble_eq_true rfl, Nat.le_of_ble_eq_true rfl⟩ [0, 1] [] rfl rfl (by decide) (by decide) (by decide) rfl (Nat.le_of_ble_eq_true rfl) ⟨Nat.le_of_ble_eq_true rfl, Nat.le_of_ble_eq_true rfl⟩ dX6_area_21 (fun r_3 u_3 h_3 => ?_)
        subst h_3
        show Z G X 7 (0) (0) [(m, .inr (6, [.int (iI (th)), .ref s1, .ref s2, .int (iI (sm)), .ref s3, .int (iI (bI (hs = true))), .ref s4, .int (iI (len)), .ref m1, .ref m2, .ref m3, .ref m4, .int (iI (ax)), .ref l1, .ref l2, .int (iI (rm)), .long (hh)])), (s1, zI G 48 (S))] 24 [(0, .ref m), (1, .int (iI (a))), (2, .int (iI (b))), (3, .int (iI (g))), (4, .int (iI (c))), (5, .int (iI (i)))] [.int (iI (bIn ((3 * a + 1) % 4) i (S 0))), .int (iI (g))]
        refine z_iadd (pc := 24) hX dX6_area_24 ?_
        refine z_aload_n (pc := 25) hX 0 rfl rfl dX6_area_25 ?_
        refine z_iload_n (pc := 26) hX 2 rfl rfl dX6_area_26 ?_
        refine z_callS_i (pc := 27) (As := [.int (iI (b))]) (rest := [.ref m, .int (iI (g + (bIn ((3 * a + 1) % 4) i (S 0))))]) (wc := []) (wr := [(m, .inr (6, [.int (iI (th)), .ref s1, .ref s2, .int (iI (sm)), .ref s3, .int (iI (bI (hs = true))), .ref s4, .int (iI (len)), .ref m1, .ref m2, .ref m3, .ref m4, .int (iI (ax)), .ref l1, .ref l2, .int (iI (rm)), .long (hh)])), (s1, zI G 48 (S))]) hX (mX6_leftShape G (b) (by first | assumption | omega | (clear ex hX ih_6; grind [uZ]))) rfl rfl rfl gX6_area_X6_leftShape hdX6_leftShape ⟨Nat.le_of_ble_eq_true rfl, Nat.le_of_ble_eq_true rfl⟩ [] [0, 1] rfl rfl (by decide) (by decide) (by decide) rfl (Nat.le_of_ble_eq_true rfl) ⟨Nat.le_of_ble_eq_true rfl, Nat.le_of_ble_eq_true rfl⟩ dX6_area_27 (fun r_4 u_4 h_4 => ?_)
        subst h_4
        show Z G X 7 (0) (0) [(m, .inr (6, [.int (iI (th)), .ref s1, .ref s2, .int (iI (sm)), .ref s3, .int (iI (bI (hs = true))), .ref s4, .int (iI (len)), .ref m1, .ref m2, .ref m3, .ref m4, .int (iI (ax)), .ref l1, .ref l2, .int (iI (rm)), .long (hh)])), (s1, zI G 48 (S))] 30 [(0, .ref m), (1, .int (iI (a))), (2, .int (iI (b))), (3, .int (iI (g))), (4, .int (iI (c))), (5, .int (iI (i)))] [.int (iI (b % 4)), .ref m, .int (iI (g + (bIn ((3 * a + 1) % 4) i (S 0))))]
        refine z_iload (pc := 30) hX 5 rfl dX6_area_30 ?_
        refine z_callV_i (pc := 32) (As := [.int (iI (b % 4)), .int (iI (i))]) (rest := [.int (iI (g + (bIn ((3 * a + 1) % 4) i (S 0))))]) (wc := [(m, .inr (6, [.int (iI (th)), .ref s1, .ref s2, .int (iI (sm)), .ref s3, .int (iI (bI (hs = true))), .ref s4, .int (iI (len)), .ref m1, .ref m2, .ref m3, .ref m4, .int (iI (ax)), .ref l1, .ref l2, .int (iI (rm)), .long (hh)])), (s1, zI G 48 (S))]) (wr := []) hX (mX6_back G (m) (s1) (s2) (s3) (s4) (m1) (m2) (m3) (m4) (l1) (l2) (th) (sm) (len) (ax) (rm) (hs) (hh) (S) (b % 4) (i) (by first | assumption | omega | (clear ex hX ih_6; grind [uZ])) (by first | assumption | omega | (clear ex hX ih_6; grind [uZ])) (by first | assumption | omega | (clear ex hX ih_6; grind [uZ]))) rfl rfl rfl (C := RX6) gX6_area_X6_back ⟨rfl, hdX6_back⟩ (T := TX6) (N := 17) 0 rfl rfl ⟨Nat.le_of_ble_eq_true rfl, Nat.le_of_ble_eq_true rfl⟩ [0, 1] [] rfl rfl (by decide) (by decide) (by decide) rfl (Nat.le_of_ble_eq_true rfl) ⟨Nat.le_of_ble_eq_true rfl, Nat.le_of_ble_eq_true rfl⟩ dX6_area_32 (fun r_5 u_5 h_5 => ?_)
        subst h_5
        show Z G X 7 (0) (0) [(m, .inr (6, [.int (iI (th)), .ref s1, .ref s2, .int (iI (sm)), .ref s3, .int (iI (bI (hs = true))), .ref s4, .int (iI (len)), .ref m1, .ref m2, .ref m3, .ref m4, .int (iI (ax)), .ref l1, .ref l2, .int (iI (rm)), .long (hh)])), (s1, zI G 48 (S))] 35 [(0, .ref m), (1, .int (iI (a))), (2, .int (iI (b))), (3, .int (iI (g))), (4, .int (iI (c))), (5, .int (iI (i)))] [.int (iI (bIn (b % 4) i (S 0))), .int (iI (g + (bIn ((3 * a + 1) % 4) i (S 0))))]
        refine z_iadd (pc := 35) hX dX6_area_35 ?_
        refine z_istore (pc := 36) hX (loc' := [(6, .int (iI ((g + (bIn ((3 * a + 1) % 4) i (S 0))) + (bIn (b % 4) i (S 0))))), (0, .ref m), (1, .int (iI (a))), (2, .int (iI (b))), (3, .int (iI (g))), (4, .int (iI (c))), (5, .int (iI (i)))]) (by decide) rfl dX6_area_36 ?_
        refine z_iload (pc := 38) hX 5 rfl dX6_area_38 ?_
        refine z_iload (pc := 40) hX 0 rfl dX6_area_40 ?_
        refine z_aload_n (pc := 42) hX 1 rfl rfl dX6_area_42 ?_
        refine z_get (pc := 43) hX (T := TX6) (C := RX6) (N := 17) (i := 7) (ref := "SignLettersModel") (name := "s") (desc := "[I") hX6_area_X6 0 rfl rfl 1 (by decide) kX6_area_f7 ⟨rfl, rfl, rfl⟩ (v := .ref s1) rfl dX6_area_43 ?_
        refine z_iconst (pc := 46) hX dX6_area_46 ?_
        refine z_iald (pc := 47) hX (N := 48) (F := S) 1 rfl (by omega) (by omega) dX6_area_47 ?_
        refine z_icmp_ge (pc := 48) (tgt := 56) hX (by decide) (by omega) (by omega) dX6_area_48 (fun c_6 => ?_) (fun c_6 => ?_)
        · refine z_aload_n (pc := 56) hX 1 rfl rfl dX6_area_56 ?_
          refine z_get (pc := 57) hX (T := TX6) (C := RX6) (N := 17) (i := 7) (ref := "SignLettersModel") (name := "s") (desc := "[I") hX6_area_X6 0 rfl rfl 1 (by decide) kX6_area_f7 ⟨rfl, rfl, rfl⟩ (v := .ref s1) rfl dX6_area_57 ?_
          refine z_iconst (pc := 60) hX dX6_area_60 ?_
          refine z_iald (pc := 61) hX (N := 48) (F := S) 1 rfl (by omega) (by omega) dX6_area_61 ?_
          refine z_iadd (pc := 62) hX dX6_area_62 ?_
          refine z_istore (pc := 63) hX (loc' := [(4, .int (iI (c + (S 1)))), (6, .int (iI ((g + (bIn ((3 * a + 1) % 4) i (S 0))) + (bIn (b % 4) i (S 0))))), (0, .ref m), (1, .int (iI (a))), (2, .int (iI (b))), (3, .int (iI (g))), (5, .int (iI (i)))]) (by decide) rfl dX6_area_63 ?_
          refine z_iinc (pc := 65) hX (loc' := [(5, .int (iI (i + 1))), (4, .int (iI (c + (S 1)))), (6, .int (iI ((g + (bIn ((3 * a + 1) % 4) i (S 0))) + (bIn (b % 4) i (S 0))))), (0, .ref m), (1, .int (iI (a))), (2, .int (iI (b))), (3, .int (iI (g)))]) 6 rfl (by decide) rfl dX6_area_65 ?_
          refine z_goto (pc := 68) (tgt := 6) hX (by decide) dX6_area_68 ?_
          refine z_at [3, 4, 5, 6, 1, 0] [0, 1] (loc' := [(0, .ref m), (1, .int (iI (a))), (2, .int (iI (b))), (3, .int (iI (g))), (4, .int (iI ((c + (S 1))))), (5, .int (iI ((i + 1))))]) (WS' := [(m, .inr (6, [.int (iI (th)), .ref s1, .ref s2, .int (iI (sm)), .ref s3, .int (iI (bI (hs = true))), .ref s4, .int (iI (len)), .ref m1, .ref m2, .ref m3, .ref m4, .int (iI (ax)), .ref l1, .ref l2, .int (iI (rm)), .long (hh)])), (s1, zI G 48 (S))]) rfl (by decide) rfl ?_
          exact ih_6 (i + 1) (c + (S 1)) (by first | assumption | omega | (clear ex hX ih_6; grind [uZ])) (by first | assumption | omega | (clear ex hX ih_6; grind [uZ])) (by rw [sumZ_s _ h0, ← hc]; unfold arF inZ; first | (rw [if_pos (by omega)]; omega) | (rw [if_neg (by omega)])) (by omega)
        · refine z_iload (pc := 51) hX 0 rfl dX6_area_51 ?_
          refine z_goto (pc := 53) (tgt := 62) hX (by decide) dX6_area_53 ?_
          refine z_iadd (pc := 62) hX dX6_area_62 ?_
          refine z_istore (pc := 63) hX (loc' := [(4, .int (iI (c + ((g + (bIn ((3 * a + 1) % 4) i (S 0))) + (bIn (b % 4) i (S 0)))))), (6, .int (iI ((g + (bIn ((3 * a + 1) % 4) i (S 0))) + (bIn (b % 4) i (S 0))))), (0, .ref m), (1, .int (iI (a))), (2, .int (iI (b))), (3, .int (iI (g))), (5, .int (iI (i)))]) (by decide) rfl dX6_area_63 ?_
          refine z_iinc (pc := 65) hX (loc' := [(5, .int (iI (i + 1))), (4, .int (iI (c + ((g + (bIn ((3 * a + 1) % 4) i (S 0))) + (bIn (b % 4) i (S 0)))))), (6, .int (iI ((g + (bIn ((3 * a + 1) % 4) i (S 0))) + (bIn (b % 4) i (S 0))))), (0, .ref m), (1, .int (iI (a))), (2, .int (iI (b))), (3, .int (iI (g)))]) 6 rfl (by decide) rfl dX6_area_65 ?_
          refine z_goto (pc := 68) (tgt := 6) hX (by decide) dX6_area_68 ?_
          refine z_at [3, 4, 5, 6, 1, 0] [0, 1] (loc' := [(0, .ref m), (1, .int (iI (a))), (2, .int (iI (b))), (3, .int (iI (g))), (4, .int (iI ((c + ((g + (bIn ((3 * a + 1) % 4) i (S 0))) + (bIn (b % 4) i (S 0))))))), (5, .int (iI ((i + 1))))]) (WS' := [(m, .inr (6, [.int (iI (th)), .ref s1, .ref s2, .int (iI (sm)), .ref s3, .int (iI (bI (hs = true))), .ref s4, .int (iI (len)), .ref m1, .ref m2, .ref m3, .ref m4, .int (iI (ax)), .ref l1, .ref l2, .int (iI (rm)), .long (hh)])), (s1, zI G 48 (S))]) rfl (by decide) rfl ?_
          exact ih_6 (i + 1) (c + ((g + (bIn ((3 * a + 1) % 4) i (S 0))) + (bIn (b % 4) i (S 0)))) (by first | assumption | omega | (clear ex hX ih_6; grind [uZ])) (by first | assumption | omega | (clear ex hX ih_6; grind [uZ])) (by rw [sumZ_s _ h0, ← hc]; unfold arF inZ; first | (rw [if_pos (by omega)]; omega) | (rw [if_neg (by omega)])) (by omega)
  refine z_at [2, 3, 4, 5, 1, 0] [0, 1] (loc' := [(0, .ref m), (1, .int (iI (a))), (2, .int (iI (b))), (3, .int (iI (g))), (4, .int (iI (0))), (5, .int (iI (0)))]) (WS' := [(m, .inr (6, [.int (iI (th)), .ref s1, .ref s2, .int (iI (sm)), .ref s3, .int (iI (bI (hs = true))), .ref s4, .int (iI (len)), .ref m1, .ref m2, .ref m3, .ref m4, .int (iI (ax)), .ref l1, .ref l2, .int (iI (rm)), .long (hh)])), (s1, zI G 48 (S))]) rfl (by decide) rfl ?_
  exact cut_6 (Int.toNat (10 - 0) + 1) (0) (0) (by first | assumption | omega | (clear ex hX cut_6; grind [uZ])) (by first | assumption | omega | (clear ex hX cut_6; grind [uZ])) (by rfl) (by omega)
theorem hX6_countedArea_X6 : ∀ w ∈ wsX60, w ∈ wsX6_countedArea := by decide +kernel
theorem kX6_countedArea_f7 : Cond.fieldLink RX6 7 "SignLettersModel" "s" "[I" ∈ wsX6_countedArea := by decide +kernel
set_option maxHeartbeats 400000 in
set_option maxRecDepth 100000 in
theorem mX6_countedArea (G : ZG) (m : Nat) (s1 : Nat) (s2 : Nat) (s3 : Nat) (s4 : Nat) (m1 : Nat) (m2 : Nat) (m3 : Nat) (m4 : Nat) (l1 : Nat) (l2 : Nat) (th : Int) (sm : Int) (len : Int) (ax : Int) (rm : Int) (hs : Bool) (hh : Int64) (S : Int → Int) (a : Int) (b : Int) (g : Int) (hE : okE S) (ha : 0 ≤ a ∧ a < 26) (hb : 0 ≤ b ∧ b < 26) (hg : 0 ≤ g ∧ g ≤ 1000) : zMeti yX6_countedArea wsX6_countedArea { frames := 2, cells := 0, slots := 0, locals := 46 } G [.ref m, .int (iI (a)), .int (iI (b)), .int (iI (g))] [(m, .inr (6, [.int (iI (th)), .ref s1, .ref s2, .int (iI (sm)), .ref s3, .int (iI (bI (hs = true))), .ref s4, .int (iI (len)), .ref m1, .ref m2, .ref m3, .ref m4, .int (iI (ax)), .ref l1, .ref l2, .int (iI (rm)), .long (hh)])), (s1, zI G 48 (S))] (fun (rr : Int32) (uu : Unit) => rr = iI (arS (inZ S a b) (S 1) g)) (fun (uu : Unit) => [(m, .inr (6, [.int (iI (th)), .ref s1, .ref s2, .int (iI (sm)), .ref s3, .int (iI (bI (hs = true))), .ref s4, .int (iI (len)), .ref m1, .ref m2, .ref m3, .ref m4, .int (iI (ax)), .ref l1, .ref l2, .int (iI (rm)), .long (hh)])), (s1, zI G 48 (S))]) 0 0 := by
  refine z_meti (cc := cX6_countedArea) (nL := 9) (rt := .int) (by decide +kernel) rfl (Nat.le_of_ble_eq_true rfl) (fun X hX ex => ?_)
  have hX : ZOk G X 9 cX6_countedArea RX6 wsX6_countedArea { frames := 2, cells := 0, slots := 0, locals := 46 } := hX
  show Z G X 9 (0) (0) [(m, .inr (6, [.int (iI (th)), .ref s1, .ref s2, .int (iI (sm)), .ref s3, .int (iI (bI (hs = true))), .ref s4, .int (iI (len)), .ref m1, .ref m2, .ref m3, .ref m4, .int (iI (ax)), .ref l1, .ref l2, .int (iI (rm)), .long (hh)])), (s1, zI G 48 (S))] 0 [(0, .ref m), (1, .int (iI (a))), (2, .int (iI (b))), (3, .int (iI (g)))] []
  have h1E := okE_1 hE
  have h0E := okE_0 hE
  refine z_iconst (pc := 0) hX dX6_countedArea_0 ?_
  refine z_istore (pc := 1) hX (loc' := [(4, .int (iI (0))), (0, .ref m), (1, .int (iI (a))), (2, .int (iI (b))), (3, .int (iI (g)))]) (by decide) rfl dX6_countedArea_1 ?_
  refine z_iconst (pc := 3) hX dX6_countedArea_3 ?_
  refine z_istore (pc := 4) hX (loc' := [(5, .int (iI (0))), (4, .int (iI (0))), (0, .ref m), (1, .int (iI (a))), (2, .int (iI (b))), (3, .int (iI (g)))]) (by decide) rfl dX6_countedArea_4 ?_
  have cut_6 : ∀ (fz : Nat) (i : Int) (c : Int) (h0 : 0 ≤ i) (h1 : i ≤ 10) (hc : c = sumZ (arF (inZ S a b) (S 1) g) i.toNat) (hm_6 : 10 - i < (fz : Int)), Z G X 9 (0) (0) [(m, .inr (6, [.int (iI (th)), .ref s1, .ref s2, .int (iI (sm)), .ref s3, .int (iI (bI (hs = true))), .ref s4, .int (iI (len)), .ref m1, .ref m2, .ref m3, .ref m4, .int (iI (ax)), .ref l1, .ref l2, .int (iI (rm)), .long (hh)])), (s1, zI G 48 (S))] 6 [(0, .ref m), (1, .int (iI (a))), (2, .int (iI (b))), (3, .int (iI (g))), (4, .int (iI (c))), (5, .int (iI (i)))] [] := by
    intro fz
    induction fz with
    | zero =>
      intro i c h0 h1 hc hm_6
      exfalso
      omega
    | succ fz ih =>
      intro i c h0 h1 hc hm_6
      have ih_6 := ih
      clear ih
      refine z_iload (pc := 6) hX 5 rfl dX6_countedArea_6 ?_
      refine z_bipush (pc := 8) hX (z := 10) (by decide +kernel) dX6_countedArea_8 ?_
      refine z_icmp_ge (pc := 10) (tgt := 80) hX (by decide) (by omega) (by omega) dX6_countedArea_10 (fun c_1 => ?_) (fun c_1 => ?_)
      · refine z_iload (pc := 80) hX 4 rfl dX6_countedArea_80 ?_
        exact ex _ _ _ () _ dX6_countedArea_82 rfl (congrArg iI (show (c : Int) = arS (inZ S a b) (S 1) g from by rw [hc, show i = 10 by omega]; rfl)) rfl
      · have hb1 := bIn_r ((3 * a + 1) % 4) i (S 0) ⟨h0, by omega⟩ h0E.1
        have hb2 := bIn_r (b % 4) i (S 0) ⟨h0, by omega⟩ h0E.1
        have har : arF (inZ S a b) (S 1) g i = if g + (bIn ((3 * a + 1) % 4) i (S 0) + bIn (b % 4) i (S 0)) < S 1 then g + (bIn ((3 * a + 1) % 4) i (S 0) + bIn (b % 4) i (S 0)) else S 1 := rfl
        have har2 : (g + (bIn ((3 * a + 1) % 4) i (S 0) + bIn (b % 4) i (S 0)) < S 1 ∧ arF (inZ S a b) (S 1) g i = g + (bIn ((3 * a + 1) % 4) i (S 0) + bIn (b % 4) i (S 0))) ∨ (¬ g + (bIn ((3 * a + 1) % 4) i (S 0) + bIn (b % 4) i (S 0)) < S 1 ∧ arF (inZ S a b) (S 1) g i = S 1) := by rw [har]; by_cases z9 : g + (bIn ((3 * a + 1) % 4) i (S 0) + bIn (b % 4) i (S 0)) < S 1; exact Or.inl ⟨z9, if_pos z9⟩; exact Or.inr ⟨z9, if_neg z9⟩
        refine z_aload_n (pc := 13) hX 0 rfl rfl dX6_countedArea_13 ?_
        refine z_iload_n (pc := 14) hX 1 rfl rfl dX6_countedArea_14 ?_
        refine z_callS_i (pc := 15) (As := [.int (iI (a))]) (rest := [.ref m]) (wc := []) (wr := [(m, .inr (6, [.int (iI (th)), .ref s1, .ref s2, .int (iI (sm)), .ref s3, .int (iI (bI (hs = true))), .ref s4, .int (iI (len)), .ref m1, .ref m2, .ref m3, .ref m4, .int (iI (ax)), .ref l1, .ref l2, .int (iI (rm)), .long (hh)])), (s1, zI G 48 (S))]) hX (mX6_rightShape G (a) (by first | assumption | omega | (clear ex hX ih_6; grind [uZ]))) rfl rfl rfl gX6_countedArea_X6_rightShape hdX6_rightShape ⟨Nat.le_of_ble_eq_true rfl, Nat.le_of_ble_eq_true rfl⟩ [] [0, 1] rfl rfl (by decide) (by decide) (by decide) rfl (Nat.le_of_ble_eq_true rfl) ⟨Nat.le_of_ble_eq_true rfl, Nat.le_of_ble_eq_true rfl⟩ dX6_countedArea_15 (fun r_2 u_2 h_2 => ?_)
        subst h_2
        show Z G X 9 (0) (0) [(m, .inr (6, [.int (iI (th)), .ref s1, .ref s2, .int (iI (sm)), .ref s3, .int (iI (bI (hs = true))), .ref s4, .int (iI (len)), .ref m1, .ref m2, .ref m3, .ref m4, .int (iI (ax)), .ref l1, .ref l2, .int (iI (rm)), .long (hh)])), (s1, zI G 48 (S))] 18 [(0, .ref m), (1, .int (iI (a))), (2, .int (iI (b))), (3, .int (iI (g))), (4, .int (iI (c))), (5, .int (iI (i)))] [.int (iI ((3 * a + 1) % 4)), .ref m]
        refine z_iload (pc := 18) hX 5 rfl dX6_countedArea_18 ?_
        refine z_callV_i (pc := 20) (As := [.int (iI ((3 * a + 1) % 4)), .int (iI (i))]) (rest := []) (wc := [(m, .inr (6, [.int (iI (th)), .ref s1, .ref s2, .int (iI (sm)), .ref s3, .int (iI (bI (hs = true))), .ref s4, .int (iI (len)), .ref m1, .ref m2, .ref m3, .ref m4, .int (iI (ax)), .ref l1, .ref l2, .int (iI (rm)), .long (hh)])), (s1, zI G 48 (S))]) (wr := []) hX (mX6_back G (m) (s1) (s2) (s3) (s4) (m1) (m2) (m3) (m4) (l1) (l2) (th) (sm) (len) (ax) (rm) (hs) (hh) (S) ((3 * a + 1) % 4) (i) (by first | assumption | omega | (clear ex hX ih_6; grind [uZ])) (by first | assumption | omega | (clear ex hX ih_6; grind [uZ])) (by first | assumption | omega | (clear ex hX ih_6; grind [uZ]))) rfl rfl rfl (C := RX6) gX6_countedArea_X6_back ⟨rfl, hdX6_back⟩ (T := TX6) (N := 17) 0 rfl rfl ⟨Nat.le_of_ble_eq_true rfl, Nat.le_of_ble_eq_true rfl⟩ [0, 1] [] rfl rfl (by decide) (by decide) (by decide) rfl (Nat.le_of_ble_eq_true rfl) ⟨Nat.le_of_ble_eq_true rfl, Nat.le_of_ble_eq_true rfl⟩ dX6_countedArea_20 (fun r_3 u_3 h_3 => ?_)
        subst h_3
        show Z G X 9 (0) (0) [(m, .inr (6, [.int (iI (th)), .ref s1, .ref s2, .int (iI (sm)), .ref s3, .int (iI (bI (hs = true))), .ref s4, .int (iI (len)), .ref m1, .ref m2, .ref m3, .ref m4, .int (iI (ax)), .ref l1, .ref l2, .int (iI (rm)), .long (hh)])), (s1, zI G 48 (S))] 23 [(0, .ref m), (1, .int (iI (a))), (2, .int (iI (b))), (3, .int (iI (g))), (4, .int (iI (c))), (5, .int (iI (i)))] [.int (iI (bIn ((3 * a + 1) % 4) i (S 0)))]
        refine z_ineg (pc := 23) hX dX6_countedArea_23 ?_
        refine z_istore (pc := 24) hX (loc' := [(6, .int (iI (-(bIn ((3 * a + 1) % 4) i (S 0))))), (0, .ref m), (1, .int (iI (a))), (2, .int (iI (b))), (3, .int (iI (g))), (4, .int (iI (c))), (5, .int (iI (i)))]) (by decide) rfl dX6_countedArea_24 ?_
        refine z_iload_n (pc := 26) hX 4 rfl rfl dX6_countedArea_26 ?_
        refine z_aload_n (pc := 27) hX 1 rfl rfl dX6_countedArea_27 ?_
        refine z_iload_n (pc := 28) hX 3 rfl rfl dX6_countedArea_28 ?_
        refine z_callS_i (pc := 29) (As := [.int (iI (b))]) (rest := [.ref m, .int (iI (g))]) (wc := []) (wr := [(m, .inr (6, [.int (iI (th)), .ref s1, .ref s2, .int (iI (sm)), .ref s3, .int (iI (bI (hs = true))), .ref s4, .int (iI (len)), .ref m1, .ref m2, .ref m3, .ref m4, .int (iI (ax)), .ref l1, .ref l2, .int (iI (rm)), .long (hh)])), (s1, zI G 48 (S))]) hX (mX6_leftShape G (b) (by first | assumption | omega | (clear ex hX ih_6; grind [uZ]))) rfl rfl rfl gX6_countedArea_X6_leftShape hdX6_leftShape ⟨Nat.le_of_ble_eq_true rfl, Nat.le_of_ble_eq_true rfl⟩ [] [0, 1] rfl rfl (by decide) (by decide) (by decide) rfl (Nat.le_of_ble_eq_true rfl) ⟨Nat.le_of_ble_eq_true rfl, Nat.le_of_ble_eq_true rfl⟩ dX6_countedArea_29 (fun r_4 u_4 h_4 => ?_)
        subst h_4
        show Z G X 9 (0) (0) [(m, .inr (6, [.int (iI (th)), .ref s1, .ref s2, .int (iI (sm)), .ref s3, .int (iI (bI (hs = true))), .ref s4, .int (iI (len)), .ref m1, .ref m2, .ref m3, .ref m4, .int (iI (ax)), .ref l1, .ref l2, .int (iI (rm)), .long (hh)])), (s1, zI G 48 (S))] 32 [(6, .int (iI (-(bIn ((3 * a + 1) % 4) i (S 0))))), (0, .ref m), (1, .int (iI (a))), (2, .int (iI (b))), (3, .int (iI (g))), (4, .int (iI (c))), (5, .int (iI (i)))] [.int (iI (b % 4)), .ref m, .int (iI (g))]
        refine z_iload (pc := 32) hX 6 rfl dX6_countedArea_32 ?_
        refine z_callV_i (pc := 34) (As := [.int (iI (b % 4)), .int (iI (i))]) (rest := [.int (iI (g))]) (wc := [(m, .inr (6, [.int (iI (th)), .ref s1, .ref s2, .int (iI (sm)), .ref s3, .int (iI (bI (hs = true))), .ref s4, .int (iI (len)), .ref m1, .ref m2, .ref m3, .ref m4, .int (iI (ax)), .ref l1, .ref l2, .int (iI (rm)), .long (hh)])), (s1, zI G 48 (S))]) (wr := []) hX (mX6_back G (m) (s1) (s2) (s3) (s4) (m1) (m2) (m3) (m4) (l1) (l2) (th) (sm) (len) (ax) (rm) (hs) (hh) (S) (b % 4) (i) (by first | assumption | omega | (clear ex hX ih_6; grind [uZ])) (by first | assumption | omega | (clear ex hX ih_6; grind [uZ])) (by first | assumption | omega | (clear ex hX ih_6; grind [uZ]))) rfl rfl rfl (C := RX6) gX6_countedArea_X6_back ⟨rfl, hdX6_back⟩ (T := TX6) (N := 17) 0 rfl rfl ⟨Nat.le_of_ble_eq_true rfl, Nat.le_of_ble_eq_true rfl⟩ [0, 1] [] rfl rfl (by decide) (by decide) (by decide) rfl (Nat.le_of_ble_eq_true rfl) ⟨Nat.le_of_ble_eq_true rfl, Nat.le_of_ble_eq_true rfl⟩ dX6_countedArea_34 (fun r_5 u_5 h_5 => ?_)
        subst h_5
        show Z G X 9 (0) (0) [(m, .inr (6, [.int (iI (th)), .ref s1, .ref s2, .int (iI (sm)), .ref s3, .int (iI (bI (hs = true))), .ref s4, .int (iI (len)), .ref m1, .ref m2, .ref m3, .ref m4, .int (iI (ax)), .ref l1, .ref l2, .int (iI (rm)), .long (hh)])), (s1, zI G 48 (S))] 37 [(6, .int (iI (-(bIn ((3 * a + 1) % 4) i (S 0))))), (0, .ref m), (1, .int (iI (a))), (2, .int (iI (b))), (3, .int (iI (g))), (4, .int (iI (c))), (5, .int (iI (i)))] [.int (iI (bIn (b % 4) i (S 0))), .int (iI (g))]
        refine z_iadd (pc := 37) hX dX6_countedArea_37 ?_
        refine z_istore (pc := 38) hX (loc' := [(7, .int (iI (g + (bIn (b % 4) i (S 0))))), (6, .int (iI (-(bIn ((3 * a + 1) % 4) i (S 0))))), (0, .ref m), (1, .int (iI (a))), (2, .int (iI (b))), (3, .int (iI (g))), (4, .int (iI (c))), (5, .int (iI (i)))]) (by decide) rfl dX6_countedArea_38 ?_
        refine z_iload (pc := 40) hX 1 rfl dX6_countedArea_40 ?_
        refine z_istore (pc := 42) hX (loc' := [(8, .int (iI (-(bIn ((3 * a + 1) % 4) i (S 0))))), (7, .int (iI (g + (bIn (b % 4) i (S 0))))), (6, .int (iI (-(bIn ((3 * a + 1) % 4) i (S 0))))), (0, .ref m), (1, .int (iI (a))), (2, .int (iI (b))), (3, .int (iI (g))), (4, .int (iI (c))), (5, .int (iI (i)))]) (by decide) rfl dX6_countedArea_42 ?_
        have cut_44 : ∀ (fz : Nat) (k : Int) (c2 : Int) (k0 : 0 ≤ k) (k1 : k ≤ arF (inZ S a b) (S 1) g i) (k2 : c2 = c + k) (hm_44 : arF (inZ S a b) (S 1) g i - k < (fz : Int)), Z G X 9 (0) (0) [(m, .inr (6, [.int (iI (th)), .ref s1, .ref s2, .int (iI (sm)), .ref s3, .int (iI (bI (hs = true))), .ref s4, .int (iI (len)), .ref m1, .ref m2, .ref m3, .ref m4, .int (iI (ax)), .ref l1, .ref l2, .int (iI (rm)), .long (hh)])), (s1, zI G 48 (S))] 44 [(0, .ref m), (1, .int (iI (a))), (2, .int (iI (b))), (3, .int (iI (g))), (4, .int (iI (c2))), (5, .int (iI (i))), (6, .int (iI (-(bIn ((3 * a + 1) % 4) i (S 0))))), (7, .int (iI (g + (bIn (b % 4) i (S 0))))), (8, .int (iI (-(bIn ((3 * a + 1) % 4) i (S 0)) + k)))] [] := by
          intro fz
          induction fz with
          | zero =>
            intro k c2 k0 k1 k2 hm_44
            exfalso
            omega
          | succ fz ih =>
            intro k c2 k0 k1 k2 hm_44
            have ih_44 := ih
            clear ih
            refine z_iload (pc := 44) hX 8 rfl dX6_countedArea_44 ?_
            refine z_iload (pc := 46) hX 7 rfl dX6_countedArea_46 ?_
            refine z_icmp_ge (pc := 48) (tgt := 74) hX (by decide) (by omega) (by omega) dX6_countedArea_48 (fun c_6 => ?_) (fun c_6 => ?_)
            · refine z_iinc (pc := 74) hX (loc' := [(5, .int (iI (i + 1))), (0, .ref m), (1, .int (iI (a))), (2, .int (iI (b))), (3, .int (iI (g))), (4, .int (iI (c2))), (6, .int (iI (-(bIn ((3 * a + 1) % 4) i (S 0))))), (7, .int (iI (g + (bIn (b % 4) i (S 0))))), (8, .int (iI (-(bIn ((3 * a + 1) % 4) i (S 0)) + k)))]) 5 rfl (by decide) rfl dX6_countedArea_74 ?_
              refine z_goto (pc := 77) (tgt := 6) hX (by decide) dX6_countedArea_77 ?_
              refine z_at [1, 2, 3, 4, 5, 0] [0, 1] (loc' := [(0, .ref m), (1, .int (iI (a))), (2, .int (iI (b))), (3, .int (iI (g))), (4, .int (iI (c2))), (5, .int (iI ((i + 1))))]) (WS' := [(m, .inr (6, [.int (iI (th)), .ref s1, .ref s2, .int (iI (sm)), .ref s3, .int (iI (bI (hs = true))), .ref s4, .int (iI (len)), .ref m1, .ref m2, .ref m3, .ref m4, .int (iI (ax)), .ref l1, .ref l2, .int (iI (rm)), .long (hh)])), (s1, zI G 48 (S))]) rfl (by decide) rfl ?_
              exact ih_6 (i + 1) (c2) (by first | assumption | omega | (clear ex hX ih_6 ih_44; grind [uZ])) (by first | assumption | omega | (clear ex hX ih_6 ih_44; grind [uZ])) (by rw [sumZ_s _ h0, ← hc]; omega) (by omega)
            · refine z_iload (pc := 51) hX 8 rfl dX6_countedArea_51 ?_
              refine z_iload (pc := 53) hX 6 rfl dX6_countedArea_53 ?_
              refine z_isub (pc := 55) hX dX6_countedArea_55 ?_
              refine z_aload_n (pc := 56) hX 0 rfl rfl dX6_countedArea_56 ?_
              refine z_get (pc := 57) hX (T := TX6) (C := RX6) (N := 17) (i := 7) (ref := "SignLettersModel") (name := "s") (desc := "[I") hX6_countedArea_X6 0 rfl rfl 1 (by decide) kX6_countedArea_f7 ⟨rfl, rfl, rfl⟩ (v := .ref s1) rfl dX6_countedArea_57 ?_
              refine z_iconst (pc := 60) hX dX6_countedArea_60 ?_
              refine z_iald (pc := 61) hX (N := 48) (F := S) 1 rfl (by omega) (by omega) dX6_countedArea_61 ?_
              refine z_icmp_ge (pc := 62) (tgt := 74) hX (by decide) (by omega) (by omega) dX6_countedArea_62 (fun c_7 => ?_) (fun c_7 => ?_)
              · refine z_iinc (pc := 74) hX (loc' := [(5, .int (iI (i + 1))), (0, .ref m), (1, .int (iI (a))), (2, .int (iI (b))), (3, .int (iI (g))), (4, .int (iI (c2))), (6, .int (iI (-(bIn ((3 * a + 1) % 4) i (S 0))))), (7, .int (iI (g + (bIn (b % 4) i (S 0))))), (8, .int (iI (-(bIn ((3 * a + 1) % 4) i (S 0)) + k)))]) 5 rfl (by decide) rfl dX6_countedArea_74 ?_
                refine z_goto (pc := 77) (tgt := 6) hX (by decide) dX6_countedArea_77 ?_
                refine z_at [1, 2, 3, 4, 5, 0] [0, 1] (loc' := [(0, .ref m), (1, .int (iI (a))), (2, .int (iI (b))), (3, .int (iI (g))), (4, .int (iI (c2))), (5, .int (iI ((i + 1))))]) (WS' := [(m, .inr (6, [.int (iI (th)), .ref s1, .ref s2, .int (iI (sm)), .ref s3, .int (iI (bI (hs = true))), .ref s4, .int (iI (len)), .ref m1, .ref m2, .ref m3, .ref m4, .int (iI (ax)), .ref l1, .ref l2, .int (iI (rm)), .long (hh)])), (s1, zI G 48 (S))]) rfl (by decide) rfl ?_
                exact ih_6 (i + 1) (c2) (by first | assumption | omega | (clear ex hX ih_6 ih_44; grind [uZ])) (by first | assumption | omega | (clear ex hX ih_6 ih_44; grind [uZ])) (by rw [sumZ_s _ h0, ← hc]; omega) (by omega)
              · refine z_iinc (pc := 65) hX (loc' := [(4, .int (iI (c2 + 1))), (0, .ref m), (1, .int (iI (a))), (2, .int (iI (b))), (3, .int (iI (g))), (5, .int (iI (i))), (6, .int (iI (-(bIn ((3 * a + 1) % 4) i (S 0))))), (7, .int (iI (g + (bIn (b % 4) i (S 0))))), (8, .int (iI (-(bIn ((3 * a + 1) % 4) i (S 0)) + k)))]) 4 rfl (by decide) rfl dX6_countedArea_65 ?_
                refine z_iinc (pc := 68) hX (loc' := [(8, .int (iI (-(bIn ((3 * a + 1) % 4) i (S 0)) + k + 1))), (4, .int (iI (c2 + 1))), (0, .ref m), (1, .int (iI (a))), (2, .int (iI (b))), (3, .int (iI (g))), (5, .int (iI (i))), (6, .int (iI (-(bIn ((3 * a + 1) % 4) i (S 0))))), (7, .int (iI (g + (bIn (b % 4) i (S 0)))))]) 8 rfl (by decide) rfl dX6_countedArea_68 ?_
                refine z_goto (pc := 71) (tgt := 44) hX (by decide) dX6_countedArea_71 ?_
                refine (congrArg (fun z_ : Int => Z G X 9 (0) (0) [(m, .inr (6, [.int (iI (th)), .ref s1, .ref s2, .int (iI (sm)), .ref s3, .int (iI (bI (hs = true))), .ref s4, .int (iI (len)), .ref m1, .ref m2, .ref m3, .ref m4, .int (iI (ax)), .ref l1, .ref l2, .int (iI (rm)), .long (hh)])), (s1, zI G 48 (S))] 44 [(8, .int (iI (z_))), (4, .int (iI (c2 + 1))), (0, .ref m), (1, .int (iI (a))), (2, .int (iI (b))), (3, .int (iI (g))), (5, .int (iI (i))), (6, .int (iI (-(bIn ((3 * a + 1) % 4) i (S 0))))), (7, .int (iI (g + (bIn (b % 4) i (S 0)))))] []) (show (-(bIn ((3 * a + 1) % 4) i (S 0)) + k + 1 : Int) = -(bIn ((3 * a + 1) % 4) i (S 0)) + (k + 1) from by omega)).mpr ?_
                refine z_at [2, 3, 4, 5, 1, 6, 7, 8, 0] [0, 1] (loc' := [(0, .ref m), (1, .int (iI (a))), (2, .int (iI (b))), (3, .int (iI (g))), (4, .int (iI ((c2 + 1)))), (5, .int (iI (i))), (6, .int (iI (-(bIn ((3 * a + 1) % 4) i (S 0))))), (7, .int (iI (g + (bIn (b % 4) i (S 0))))), (8, .int (iI (-(bIn ((3 * a + 1) % 4) i (S 0)) + (k + 1))))]) (WS' := [(m, .inr (6, [.int (iI (th)), .ref s1, .ref s2, .int (iI (sm)), .ref s3, .int (iI (bI (hs = true))), .ref s4, .int (iI (len)), .ref m1, .ref m2, .ref m3, .ref m4, .int (iI (ax)), .ref l1, .ref l2, .int (iI (rm)), .long (hh)])), (s1, zI G 48 (S))]) rfl (by decide) rfl ?_
                exact ih_44 (k + 1) (c2 + 1) (by first | assumption | omega | (clear ex hX ih_6 ih_44; grind [uZ])) (by omega) (by first | assumption | omega | (clear ex hX ih_6 ih_44; grind [uZ])) (by omega)
        refine (congrArg (fun z_ : Int => Z G X 9 (0) (0) [(m, .inr (6, [.int (iI (th)), .ref s1, .ref s2, .int (iI (sm)), .ref s3, .int (iI (bI (hs = true))), .ref s4, .int (iI (len)), .ref m1, .ref m2, .ref m3, .ref m4, .int (iI (ax)), .ref l1, .ref l2, .int (iI (rm)), .long (hh)])), (s1, zI G 48 (S))] 44 [(8, .int (iI (z_))), (7, .int (iI (g + (bIn (b % 4) i (S 0))))), (6, .int (iI (-(bIn ((3 * a + 1) % 4) i (S 0))))), (0, .ref m), (1, .int (iI (a))), (2, .int (iI (b))), (3, .int (iI (g))), (4, .int (iI (c))), (5, .int (iI (i)))] []) (show (-(bIn ((3 * a + 1) % 4) i (S 0)) : Int) = -(bIn ((3 * a + 1) % 4) i (S 0)) + 0 from by omega)).mpr ?_
        refine z_at [3, 4, 5, 6, 7, 8, 2, 1, 0] [0, 1] (loc' := [(0, .ref m), (1, .int (iI (a))), (2, .int (iI (b))), (3, .int (iI (g))), (4, .int (iI (c))), (5, .int (iI (i))), (6, .int (iI (-(bIn ((3 * a + 1) % 4) i (S 0))))), (7, .int (iI (g + (bIn (b % 4) i (S 0))))), (8, .int (iI (-(bIn ((3 * a + 1) % 4) i (S 0)) + 0)))]) (WS' := [(m, .inr (6, [.int (iI (th)), .ref s1, .ref s2, .int (iI (sm)), .ref s3, .int (iI (bI (hs = true))), .ref s4, .int (iI (len)), .ref m1, .ref m2, .ref m3, .ref m4, .int (iI (ax)), .ref l1, .ref l2, .int (iI (rm)), .long (hh)])), (s1, zI G 48 (S))]) rfl (by decide) rfl ?_
        exact cut_44 (Int.toNat (arF (inZ S a b) (S 1) g i - 0) + 1) (0) (c) (by first | assumption | omega | (clear ex hX ih_6 cut_44; grind [uZ])) (by omega) (by first | assumption | omega | (clear ex hX ih_6 cut_44; grind [uZ])) (by omega)
  refine z_at [2, 3, 4, 5, 1, 0] [0, 1] (loc' := [(0, .ref m), (1, .int (iI (a))), (2, .int (iI (b))), (3, .int (iI (g))), (4, .int (iI (0))), (5, .int (iI (0)))]) (WS' := [(m, .inr (6, [.int (iI (th)), .ref s1, .ref s2, .int (iI (sm)), .ref s3, .int (iI (bI (hs = true))), .ref s4, .int (iI (len)), .ref m1, .ref m2, .ref m3, .ref m4, .int (iI (ax)), .ref l1, .ref l2, .int (iI (rm)), .long (hh)])), (s1, zI G 48 (S))]) rfl (by decide) rfl ?_
  exact cut_6 (Int.toNat (10 - 0) + 1) (0) (0) (by first | assumption | omega | (clear ex hX cut_6; grind [uZ])) (by first | assumption | omega | (clear ex hX cut_6; grind [uZ])) (by rfl) (by omega)
theorem hX6_share_X6 : ∀ w ∈ wsX60, w ∈ wsX6_share := by decide +kernel
theorem kX6_share_f7 : Cond.fieldLink RX6 7 "SignLettersModel" "s" "[I" ∈ wsX6_share := by decide +kernel
set_option maxHeartbeats 400000 in
set_option maxRecDepth 100000 in
theorem mX6_share (G : ZG) (m : Nat) (s1 : Nat) (s2 : Nat) (s3 : Nat) (s4 : Nat) (m1 : Nat) (m2 : Nat) (m3 : Nat) (m4 : Nat) (l1 : Nat) (l2 : Nat) (th : Int) (sm : Int) (len : Int) (ax : Int) (rm : Int) (hs : Bool) (hh : Int64) (S : Int → Int) (a : Int) (hE : okE S) (ha : 0 ≤ a ∧ a ≤ 400) : zMeti yX6_share wsX6_share { frames := 1, cells := 0, slots := 0, locals := 20 } G [.ref m, .int (iI (a))] [(m, .inr (6, [.int (iI (th)), .ref s1, .ref s2, .int (iI (sm)), .ref s3, .int (iI (bI (hs = true))), .ref s4, .int (iI (len)), .ref m1, .ref m2, .ref m3, .ref m4, .int (iI (ax)), .ref l1, .ref l2, .int (iI (rm)), .long (hh)])), (s1, zI G 48 (S))] (fun (rr : Int32) (uu : Unit) => rr = iI (shS (S 3) a)) (fun (uu : Unit) => [(m, .inr (6, [.int (iI (th)), .ref s1, .ref s2, .int (iI (sm)), .ref s3, .int (iI (bI (hs = true))), .ref s4, .int (iI (len)), .ref m1, .ref m2, .ref m3, .ref m4, .int (iI (ax)), .ref l1, .ref l2, .int (iI (rm)), .long (hh)])), (s1, zI G 48 (S))]) 0 0 := by
  refine z_meti (cc := cX6_share) (nL := 2) (rt := .int) (by decide +kernel) rfl (Nat.le_of_ble_eq_true rfl) (fun X hX ex => ?_)
  have hX : ZOk G X 2 cX6_share RX6 wsX6_share { frames := 1, cells := 0, slots := 0, locals := 20 } := hX
  show Z G X 2 (0) (0) [(m, .inr (6, [.int (iI (th)), .ref s1, .ref s2, .int (iI (sm)), .ref s3, .int (iI (bI (hs = true))), .ref s4, .int (iI (len)), .ref m1, .ref m2, .ref m3, .ref m4, .int (iI (ax)), .ref l1, .ref l2, .int (iI (rm)), .long (hh)])), (s1, zI G 48 (S))] 0 [(0, .ref m), (1, .int (iI (a)))] []
  have h3E := okE_3 hE
  refine z_iload_n (pc := 0) hX 1 rfl rfl dX6_share_0 ?_
  refine z_aload_n (pc := 1) hX 0 rfl rfl dX6_share_1 ?_
  refine z_get (pc := 2) hX (T := TX6) (C := RX6) (N := 17) (i := 7) (ref := "SignLettersModel") (name := "s") (desc := "[I") hX6_share_X6 0 rfl rfl 1 (by decide) kX6_share_f7 ⟨rfl, rfl, rfl⟩ (v := .ref s1) rfl dX6_share_2 ?_
  refine z_iconst (pc := 5) hX dX6_share_5 ?_
  refine z_iald (pc := 6) hX (N := 48) (F := S) 1 rfl (by omega) (by omega) dX6_share_6 ?_
  refine z_isub (pc := 7) hX dX6_share_7 ?_
  refine z_callS_i (pc := 8) (As := [.int (iI (a - (S 3)))]) (rest := []) (wc := []) (wr := [(m, .inr (6, [.int (iI (th)), .ref s1, .ref s2, .int (iI (sm)), .ref s3, .int (iI (bI (hs = true))), .ref s4, .int (iI (len)), .ref m1, .ref m2, .ref m3, .ref m4, .int (iI (ax)), .ref l1, .ref l2, .int (iI (rm)), .long (hh)])), (s1, zI G 48 (S))]) hX (mX6_size G (a - (S 3)) (by first | assumption | omega | (clear ex hX; grind [uZ]))) rfl rfl rfl gX6_share_X6_size hdX6_size ⟨Nat.le_of_ble_eq_true rfl, Nat.le_of_ble_eq_true rfl⟩ [] [0, 1] rfl rfl (by decide) (by decide) (by decide) rfl (Nat.le_of_ble_eq_true rfl) ⟨Nat.le_of_ble_eq_true rfl, Nat.le_of_ble_eq_true rfl⟩ dX6_share_8 (fun r_1 u_1 h_1 => ?_)
  subst h_1
  have e_1 : (if (a - (S 3)) < 0 then -(a - (S 3)) else (a - (S 3)) : Int) = if S 3 < a then a - S 3 else S 3 - a := by by_cases z9 : S 3 < a; (rw [if_pos z9, if_neg (by omega)]); (rw [if_neg z9]; by_cases z8 : a = S 3; (rw [if_neg (by omega)]; omega); (rw [if_pos (by omega)]; omega))
  rw [e_1]
  have hab : 0 ≤ (if S 3 < a then a - S 3 else S 3 - a) ∧ (if S 3 < a then a - S 3 else S 3 - a) ≤ 400 := by split <;> omega
  show Z G X 2 (0) (0) [(m, .inr (6, [.int (iI (th)), .ref s1, .ref s2, .int (iI (sm)), .ref s3, .int (iI (bI (hs = true))), .ref s4, .int (iI (len)), .ref m1, .ref m2, .ref m3, .ref m4, .int (iI (ax)), .ref l1, .ref l2, .int (iI (rm)), .long (hh)])), (s1, zI G 48 (S))] 11 [(0, .ref m), (1, .int (iI (a)))] [.int (iI (if S 3 < a then a - S 3 else S 3 - a))]
  refine z_bipush (pc := 11) hX (z := 100) (by decide +kernel) dX6_share_11 ?_
  refine z_imul (pc := 13) hX dX6_share_13 ?_
  refine z_aload_n (pc := 14) hX 0 rfl rfl dX6_share_14 ?_
  refine z_get (pc := 15) hX (T := TX6) (C := RX6) (N := 17) (i := 7) (ref := "SignLettersModel") (name := "s") (desc := "[I") hX6_share_X6 0 rfl rfl 1 (by decide) kX6_share_f7 ⟨rfl, rfl, rfl⟩ (v := .ref s1) rfl dX6_share_15 ?_
  refine z_iconst (pc := 18) hX dX6_share_18 ?_
  refine z_iald (pc := 19) hX (N := 48) (F := S) 1 rfl (by omega) (by omega) dX6_share_19 ?_
  refine z_idiv (pc := 20) hX (by omega) (by omega) dX6_share_20 ?_
  exact ex _ _ _ () _ dX6_share_21 rfl (congrArg iI (show (((if S 3 < a then a - S 3 else S 3 - a) * 100) / (S 3) : Int) = shS (S 3) a from by rfl)) rfl
theorem hX6_isFault_X6 : ∀ w ∈ wsX60, w ∈ wsX6_isFault := by decide +kernel
theorem hdX6_share : yX6_share.cls ≠ "java/lang/invoke/MethodHandle" ∧ yX6_share.cls ≠ "java/lang/invoke/VarHandle" ∧ (parseMethodDescriptor yX6_share.desc).map (fun d => d.parameters.length) = some 1 := by decide +kernel
theorem kX6_isFault_f31 : Cond.fieldLink RX6 31 "SignLettersModel" "areas" "[I" ∈ wsX6_isFault := by decide +kernel
theorem kX6_isFault_f7 : Cond.fieldLink RX6 7 "SignLettersModel" "s" "[I" ∈ wsX6_isFault := by decide +kernel
set_option maxHeartbeats 400000 in
set_option maxRecDepth 100000 in
theorem mX6_isFault (G : ZG) (m : Nat) (s1 : Nat) (s2 : Nat) (s3 : Nat) (s4 : Nat) (m1 : Nat) (m2 : Nat) (m3 : Nat) (m4 : Nat) (l1 : Nat) (l2 : Nat) (th : Int) (sm : Int) (len : Int) (ax : Int) (rm : Int) (hs : Bool) (hh : Int64) (S : Int → Int) (A : Int → Int) (p : Int) (hE : okE S) (hp : 0 ≤ p ∧ p < 20) (hA : -1 ≤ A p ∧ A p ≤ 400) : zMeti yX6_isFault wsX6_isFault { frames := 2, cells := 0, slots := 0, locals := 41 } G [.ref m, .int (iI (p))] [(m, .inr (6, [.int (iI (th)), .ref s1, .ref s2, .int (iI (sm)), .ref s3, .int (iI (bI (hs = true))), .ref s4, .int (iI (len)), .ref m1, .ref m2, .ref m3, .ref m4, .int (iI (ax)), .ref l1, .ref l2, .int (iI (rm)), .long (hh)])), (s1, zI G 48 (S)), (m4, zI G 20 (A))] (fun (rr : Int32) (uu : Unit) => rr = iI (bI (A p ≠ -1 ∧ S 5 < shS (S 3) (A p)))) (fun (uu : Unit) => [(m, .inr (6, [.int (iI (th)), .ref s1, .ref s2, .int (iI (sm)), .ref s3, .int (iI (bI (hs = true))), .ref s4, .int (iI (len)), .ref m1, .ref m2, .ref m3, .ref m4, .int (iI (ax)), .ref l1, .ref l2, .int (iI (rm)), .long (hh)])), (s1, zI G 48 (S)), (m4, zI G 20 (A))]) 0 0 := by
  refine z_meti (cc := cX6_isFault) (nL := 2) (rt := .boolean) (by decide +kernel) rfl (Nat.le_of_ble_eq_true rfl) (fun X hX ex => ?_)
  have hX : ZOk G X 2 cX6_isFault RX6 wsX6_isFault { frames := 2, cells := 0, slots := 0, locals := 41 } := hX
  show Z G X 2 (0) (0) [(m, .inr (6, [.int (iI (th)), .ref s1, .ref s2, .int (iI (sm)), .ref s3, .int (iI (bI (hs = true))), .ref s4, .int (iI (len)), .ref m1, .ref m2, .ref m3, .ref m4, .int (iI (ax)), .ref l1, .ref l2, .int (iI (rm)), .long (hh)])), (s1, zI G 48 (S)), (m4, zI G 20 (A))] 0 [(0, .ref m), (1, .int (iI (p)))] []
  have h5E := okE_5 hE
  refine z_aload_n (pc := 0) hX 0 rfl rfl dX6_isFault_0 ?_
  refine z_get (pc := 1) hX (T := TX6) (C := RX6) (N := 17) (i := 31) (ref := "SignLettersModel") (name := "areas") (desc := "[I") hX6_isFault_X6 0 rfl rfl 11 (by decide) kX6_isFault_f31 ⟨rfl, rfl, rfl⟩ (v := .ref m4) rfl dX6_isFault_1 ?_
  refine z_iload_n (pc := 4) hX 1 rfl rfl dX6_isFault_4 ?_
  refine z_iald (pc := 5) hX (N := 20) (F := A) 2 rfl (by omega) (by omega) dX6_isFault_5 ?_
  refine z_iconst (pc := 6) hX dX6_isFault_6 ?_
  refine z_icmp_eq (pc := 7) (tgt := 33) hX (by decide) (by omega) (by omega) dX6_isFault_7 (fun c_1 => ?_) (fun c_1 => ?_)
  · refine z_iconst (pc := 33) hX dX6_isFault_33 ?_
    exact ex _ _ _ () _ dX6_isFault_34 (by first | decide +kernel | exact nar_b) (zb0 (by first | assumption | omega | (clear ex hX; grind [uZ]))) rfl
  · have hsh := shS_r (ar := A p) (okE_3 hE) (by omega)
    refine z_aload_n (pc := 10) hX 0 rfl rfl dX6_isFault_10 ?_
    refine z_aload_n (pc := 11) hX 0 rfl rfl dX6_isFault_11 ?_
    refine z_get (pc := 12) hX (T := TX6) (C := RX6) (N := 17) (i := 31) (ref := "SignLettersModel") (name := "areas") (desc := "[I") hX6_isFault_X6 0 rfl rfl 11 (by decide) kX6_isFault_f31 ⟨rfl, rfl, rfl⟩ (v := .ref m4) rfl dX6_isFault_12 ?_
    refine z_iload_n (pc := 15) hX 1 rfl rfl dX6_isFault_15 ?_
    refine z_iald (pc := 16) hX (N := 20) (F := A) 2 rfl (by omega) (by omega) dX6_isFault_16 ?_
    refine z_callV_i (pc := 17) (As := [.int (iI (A p))]) (rest := []) (wc := [(m, .inr (6, [.int (iI (th)), .ref s1, .ref s2, .int (iI (sm)), .ref s3, .int (iI (bI (hs = true))), .ref s4, .int (iI (len)), .ref m1, .ref m2, .ref m3, .ref m4, .int (iI (ax)), .ref l1, .ref l2, .int (iI (rm)), .long (hh)])), (s1, zI G 48 (S))]) (wr := [(m4, zI G 20 (A))]) hX (mX6_share G (m) (s1) (s2) (s3) (s4) (m1) (m2) (m3) (m4) (l1) (l2) (th) (sm) (len) (ax) (rm) (hs) (hh) (S) (A p) (by first | assumption | omega | (clear ex hX; grind [uZ])) (by first | assumption | omega | (clear ex hX; grind [uZ]))) rfl rfl rfl (C := RX6) gX6_isFault_X6_share ⟨rfl, hdX6_share⟩ (T := TX6) (N := 17) 0 rfl rfl ⟨Nat.le_of_ble_eq_true rfl, Nat.le_of_ble_eq_true rfl⟩ [0, 1] [2] rfl rfl (by decide) (by decide) (by decide) rfl (Nat.le_of_ble_eq_true rfl) ⟨Nat.le_of_ble_eq_true rfl, Nat.le_of_ble_eq_true rfl⟩ dX6_isFault_17 (fun r_2 u_2 h_2 => ?_)
    subst h_2
    show Z G X 2 (0) (0) [(m4, zI G 20 (A)), (m, .inr (6, [.int (iI (th)), .ref s1, .ref s2, .int (iI (sm)), .ref s3, .int (iI (bI (hs = true))), .ref s4, .int (iI (len)), .ref m1, .ref m2, .ref m3, .ref m4, .int (iI (ax)), .ref l1, .ref l2, .int (iI (rm)), .long (hh)])), (s1, zI G 48 (S))] 20 [(0, .ref m), (1, .int (iI (p)))] [.int (iI (shS (S 3) (A p)))]
    refine z_aload_n (pc := 20) hX 0 rfl rfl dX6_isFault_20 ?_
    refine z_get (pc := 21) hX (T := TX6) (C := RX6) (N := 17) (i := 7) (ref := "SignLettersModel") (name := "s") (desc := "[I") hX6_isFault_X6 1 rfl rfl 1 (by decide) kX6_isFault_f7 ⟨rfl, rfl, rfl⟩ (v := .ref s1) rfl dX6_isFault_21 ?_
    refine z_iconst (pc := 24) hX dX6_isFault_24 ?_
    refine z_iald (pc := 25) hX (N := 48) (F := S) 2 rfl (by omega) (by omega) dX6_isFault_25 ?_
    refine z_icmp_le (pc := 26) (tgt := 33) hX (by decide) (by omega) (by omega) dX6_isFault_26 (fun c_3 => ?_) (fun c_3 => ?_)
    · refine z_iconst (pc := 33) hX dX6_isFault_33 ?_
      refine z_at [0, 1] [1, 2, 0] (loc' := [(0, .ref m), (1, .int (iI (p)))]) (WS' := [(m, .inr (6, [.int (iI (th)), .ref s1, .ref s2, .int (iI (sm)), .ref s3, .int (iI (bI (hs = true))), .ref s4, .int (iI (len)), .ref m1, .ref m2, .ref m3, .ref m4, .int (iI (ax)), .ref l1, .ref l2, .int (iI (rm)), .long (hh)])), (s1, zI G 48 (S)), (m4, zI G 20 (A))]) rfl (by decide) rfl ?_
      exact ex _ _ _ () _ dX6_isFault_34 (by first | decide +kernel | exact nar_b) (zb0 (by first | assumption | omega | (clear ex hX; grind [uZ]))) rfl
    · refine z_iconst (pc := 29) hX dX6_isFault_29 ?_
      refine z_goto (pc := 30) (tgt := 34) hX (by decide) dX6_isFault_30 ?_
      refine z_at [0, 1] [1, 2, 0] (loc' := [(0, .ref m), (1, .int (iI (p)))]) (WS' := [(m, .inr (6, [.int (iI (th)), .ref s1, .ref s2, .int (iI (sm)), .ref s3, .int (iI (bI (hs = true))), .ref s4, .int (iI (len)), .ref m1, .ref m2, .ref m3, .ref m4, .int (iI (ax)), .ref l1, .ref l2, .int (iI (rm)), .long (hh)])), (s1, zI G 48 (S)), (m4, zI G 20 (A))]) rfl (by decide) rfl ?_
      exact ex _ _ _ () _ dX6_isFault_34 (by first | decide +kernel | exact nar_b) (zb1 (by first | assumption | omega | (clear ex hX; grind [uZ]))) rfl
theorem hX6_wantedGap_X6 : ∀ w ∈ wsX60, w ∈ wsX6_wantedGap := by decide +kernel
theorem hdX6_area : yX6_area.cls ≠ "java/lang/invoke/MethodHandle" ∧ yX6_area.cls ≠ "java/lang/invoke/VarHandle" ∧ (parseMethodDescriptor yX6_area.desc).map (fun d => d.parameters.length) = some 3 := by decide +kernel
theorem kX6_wantedGap_f7 : Cond.fieldLink RX6 7 "SignLettersModel" "s" "[I" ∈ wsX6_wantedGap := by decide +kernel
set_option maxHeartbeats 400000 in
set_option maxRecDepth 100000 in
theorem mX6_wantedGap (G : ZG) (m : Nat) (s1 : Nat) (s2 : Nat) (s3 : Nat) (s4 : Nat) (m1 : Nat) (m2 : Nat) (m3 : Nat) (m4 : Nat) (l1 : Nat) (l2 : Nat) (th : Int) (sm : Int) (len : Int) (ax : Int) (rm : Int) (hs : Bool) (hh : Int64) (S : Int → Int) (a : Int) (b : Int) (q : Int) (hE : okE S) (ha : 0 ≤ a ∧ a < 26) (hb : 0 ≤ b ∧ b < 26) (hq : -5 ≤ q ∧ q ≤ 5) : zMeti yX6_wantedGap wsX6_wantedGap { frames := 3, cells := 0, slots := 0, locals := 72 } G [.ref m, .int (iI (a)), .int (iI (b)), .int (iI (q))] [(m, .inr (6, [.int (iI (th)), .ref s1, .ref s2, .int (iI (sm)), .ref s3, .int (iI (bI (hs = true))), .ref s4, .int (iI (len)), .ref m1, .ref m2, .ref m3, .ref m4, .int (iI (ax)), .ref l1, .ref l2, .int (iI (rm)), .long (hh)])), (s1, zI G 48 (S))] (fun (rr : Int32) (uu : Unit) => rr = iI (if 0 < lgS (inZ S a b) (S 1) (S 3) + q then lgS (inZ S a b) (S 1) (S 3) + q else 0)) (fun (uu : Unit) => [(m, .inr (6, [.int (iI (th)), .ref s1, .ref s2, .int (iI (sm)), .ref s3, .int (iI (bI (hs = true))), .ref s4, .int (iI (len)), .ref m1, .ref m2, .ref m3, .ref m4, .int (iI (ax)), .ref l1, .ref l2, .int (iI (rm)), .long (hh)])), (s1, zI G 48 (S))]) 0 0 := by
  refine z_meti (cc := cX6_wantedGap) (nL := 5) (rt := .int) (by decide +kernel) rfl (Nat.le_of_ble_eq_true rfl) (fun X hX ex => ?_)
  have hX : ZOk G X 5 cX6_wantedGap RX6 wsX6_wantedGap { frames := 3, cells := 0, slots := 0, locals := 72 } := hX
  show Z G X 5 (0) (0) [(m, .inr (6, [.int (iI (th)), .ref s1, .ref s2, .int (iI (sm)), .ref s3, .int (iI (bI (hs = true))), .ref s4, .int (iI (len)), .ref m1, .ref m2, .ref m3, .ref m4, .int (iI (ax)), .ref l1, .ref l2, .int (iI (rm)), .long (hh)])), (s1, zI G 48 (S))] 0 [(0, .ref m), (1, .int (iI (a))), (2, .int (iI (b))), (3, .int (iI (q)))] []
  have h1E := okE_1 hE
  have h3E := okE_3 hE
  have hN1 : ∀ q : Int, 0 ≤ q → q < 10 → 0 ≤ inZ S a b q ∧ inZ S a b q ≤ 8 := fun q h0 h1 => inZ_r hE ⟨h0, h1⟩
  refine z_iconst (pc := 0) hX dX6_wantedGap_0 ?_
  refine z_istore (pc := 1) hX (loc' := [(4, .int (iI (0))), (0, .ref m), (1, .int (iI (a))), (2, .int (iI (b))), (3, .int (iI (q)))]) (by decide) rfl dX6_wantedGap_1 ?_
  have cut_3 : ∀ (fz : Nat) (i : Int) (h0 : 0 ≤ i) (h1 : i ≤ 40) (hc : lgS (inZ S a b) (S 1) (S 3) = lgA (arS (inZ S a b) (S 1)) (S 3) (40 - i).toNat) (hm_3 : 40 - i < (fz : Int)), Z G X 5 (0) (0) [(m, .inr (6, [.int (iI (th)), .ref s1, .ref s2, .int (iI (sm)), .ref s3, .int (iI (bI (hs = true))), .ref s4, .int (iI (len)), .ref m1, .ref m2, .ref m3, .ref m4, .int (iI (ax)), .ref l1, .ref l2, .int (iI (rm)), .long (hh)])), (s1, zI G 48 (S))] 3 [(0, .ref m), (1, .int (iI (a))), (2, .int (iI (b))), (3, .int (iI (q))), (4, .int (iI (i)))] [] := by
    intro fz
    induction fz with
    | zero =>
      intro i h0 h1 hc hm_3
      exfalso
      omega
    | succ fz ih =>
      intro i h0 h1 hc hm_3
      have ih_3 := ih
      clear ih
      refine z_iload (pc := 3) hX 4 rfl dX6_wantedGap_3 ?_
      refine z_bipush (pc := 5) hX (z := 40) (by decide +kernel) dX6_wantedGap_5 ?_
      refine z_icmp_ge (pc := 7) (tgt := 33) hX (by decide) (by omega) (by omega) dX6_wantedGap_7 (fun c_1 => ?_) (fun c_1 => ?_)
      · have hg : lgS (inZ S a b) (S 1) (S 3) = i := by first | (rw [hc, lgA_0 _ _ (by omega)]; omega) | (rw [hc, lgA_s _ _ (by omega), if_pos (by omega)])
        refine z_iload (pc := 33) hX 4 rfl dX6_wantedGap_33 ?_
        refine z_iload_n (pc := 35) hX 3 rfl rfl dX6_wantedGap_35 ?_
        refine z_iadd (pc := 36) hX dX6_wantedGap_36 ?_
        refine z_if_ge (pc := 37) (tgt := 44) hX (by decide) (by omega) dX6_wantedGap_37 (fun c_2 => ?_) (fun c_2 => ?_)
        · refine z_iload (pc := 44) hX 4 rfl dX6_wantedGap_44 ?_
          refine z_iload_n (pc := 46) hX 3 rfl rfl dX6_wantedGap_46 ?_
          refine z_iadd (pc := 47) hX dX6_wantedGap_47 ?_
          exact ex _ _ _ () _ dX6_wantedGap_48 rfl (congrArg iI (show (i + q : Int) = if 0 < lgS (inZ S a b) (S 1) (S 3) + q then lgS (inZ S a b) (S 1) (S 3) + q else 0 from by rw [hg]; by_cases z9 : 0 < i + q; (rw [if_pos z9] <;> omega); (rw [if_neg z9] <;> omega))) rfl
        · refine z_iconst (pc := 40) hX dX6_wantedGap_40 ?_
          refine z_goto (pc := 41) (tgt := 48) hX (by decide) dX6_wantedGap_41 ?_
          exact ex _ _ _ () _ dX6_wantedGap_48 rfl (congrArg iI (show (0 : Int) = if 0 < lgS (inZ S a b) (S 1) (S 3) + q then lgS (inZ S a b) (S 1) (S 3) + q else 0 from by rw [hg]; by_cases z9 : 0 < i + q; (rw [if_pos z9] <;> omega); (rw [if_neg z9] <;> omega))) rfl
      · refine z_aload_n (pc := 10) hX 0 rfl rfl dX6_wantedGap_10 ?_
        refine z_iload_n (pc := 11) hX 1 rfl rfl dX6_wantedGap_11 ?_
        refine z_iload_n (pc := 12) hX 2 rfl rfl dX6_wantedGap_12 ?_
        refine z_iload (pc := 13) hX 4 rfl dX6_wantedGap_13 ?_
        refine z_callV_i (pc := 15) (As := [.int (iI (a)), .int (iI (b)), .int (iI (i))]) (rest := []) (wc := [(m, .inr (6, [.int (iI (th)), .ref s1, .ref s2, .int (iI (sm)), .ref s3, .int (iI (bI (hs = true))), .ref s4, .int (iI (len)), .ref m1, .ref m2, .ref m3, .ref m4, .int (iI (ax)), .ref l1, .ref l2, .int (iI (rm)), .long (hh)])), (s1, zI G 48 (S))]) (wr := []) hX (mX6_area G (m) (s1) (s2) (s3) (s4) (m1) (m2) (m3) (m4) (l1) (l2) (th) (sm) (len) (ax) (rm) (hs) (hh) (S) (a) (b) (i) (by first | assumption | omega | (clear ex hX ih_3; grind [uZ])) (by first | assumption | omega | (clear ex hX ih_3; grind [uZ])) (by first | assumption | omega | (clear ex hX ih_3; grind [uZ])) (by first | assumption | omega | (clear ex hX ih_3; grind [uZ]))) rfl rfl rfl (C := RX6) gX6_wantedGap_X6_area ⟨rfl, hdX6_area⟩ (T := TX6) (N := 17) 0 rfl rfl ⟨Nat.le_of_ble_eq_true rfl, Nat.le_of_ble_eq_true rfl⟩ [0, 1] [] rfl rfl (by decide) (by decide) (by decide) rfl (Nat.le_of_ble_eq_true rfl) ⟨Nat.le_of_ble_eq_true rfl, Nat.le_of_ble_eq_true rfl⟩ dX6_wantedGap_15 (fun r_3 u_3 h_3 => ?_)
        subst h_3
        have ha_3 := arS_r (rl := S 1) (g := i) hN1 h0 (by omega)
        show Z G X 5 (0) (0) [(m, .inr (6, [.int (iI (th)), .ref s1, .ref s2, .int (iI (sm)), .ref s3, .int (iI (bI (hs = true))), .ref s4, .int (iI (len)), .ref m1, .ref m2, .ref m3, .ref m4, .int (iI (ax)), .ref l1, .ref l2, .int (iI (rm)), .long (hh)])), (s1, zI G 48 (S))] 18 [(0, .ref m), (1, .int (iI (a))), (2, .int (iI (b))), (3, .int (iI (q))), (4, .int (iI (i)))] [.int (iI (arS (inZ S a b) (S 1) i))]
        refine z_aload_n (pc := 18) hX 0 rfl rfl dX6_wantedGap_18 ?_
        refine z_get (pc := 19) hX (T := TX6) (C := RX6) (N := 17) (i := 7) (ref := "SignLettersModel") (name := "s") (desc := "[I") hX6_wantedGap_X6 0 rfl rfl 1 (by decide) kX6_wantedGap_f7 ⟨rfl, rfl, rfl⟩ (v := .ref s1) rfl dX6_wantedGap_19 ?_
        refine z_iconst (pc := 22) hX dX6_wantedGap_22 ?_
        refine z_iald (pc := 23) hX (N := 48) (F := S) 1 rfl (by omega) (by omega) dX6_wantedGap_23 ?_
        refine z_icmp_ge (pc := 24) (tgt := 33) hX (by decide) (by omega) (by omega) dX6_wantedGap_24 (fun c_4 => ?_) (fun c_4 => ?_)
        · have hg : lgS (inZ S a b) (S 1) (S 3) = i := by first | (rw [hc, lgA_0 _ _ (by omega)]; omega) | (rw [hc, lgA_s _ _ (by omega), if_pos (by omega)])
          refine z_iload (pc := 33) hX 4 rfl dX6_wantedGap_33 ?_
          refine z_iload_n (pc := 35) hX 3 rfl rfl dX6_wantedGap_35 ?_
          refine z_iadd (pc := 36) hX dX6_wantedGap_36 ?_
          refine z_if_ge (pc := 37) (tgt := 44) hX (by decide) (by omega) dX6_wantedGap_37 (fun c_5 => ?_) (fun c_5 => ?_)
          · refine z_iload (pc := 44) hX 4 rfl dX6_wantedGap_44 ?_
            refine z_iload_n (pc := 46) hX 3 rfl rfl dX6_wantedGap_46 ?_
            refine z_iadd (pc := 47) hX dX6_wantedGap_47 ?_
            exact ex _ _ _ () _ dX6_wantedGap_48 rfl (congrArg iI (show (i + q : Int) = if 0 < lgS (inZ S a b) (S 1) (S 3) + q then lgS (inZ S a b) (S 1) (S 3) + q else 0 from by rw [hg]; by_cases z9 : 0 < i + q; (rw [if_pos z9] <;> omega); (rw [if_neg z9] <;> omega))) rfl
          · refine z_iconst (pc := 40) hX dX6_wantedGap_40 ?_
            refine z_goto (pc := 41) (tgt := 48) hX (by decide) dX6_wantedGap_41 ?_
            exact ex _ _ _ () _ dX6_wantedGap_48 rfl (congrArg iI (show (0 : Int) = if 0 < lgS (inZ S a b) (S 1) (S 3) + q then lgS (inZ S a b) (S 1) (S 3) + q else 0 from by rw [hg]; by_cases z9 : 0 < i + q; (rw [if_pos z9] <;> omega); (rw [if_neg z9] <;> omega))) rfl
        · refine z_iinc (pc := 27) hX (loc' := [(4, .int (iI (i + 1))), (0, .ref m), (1, .int (iI (a))), (2, .int (iI (b))), (3, .int (iI (q)))]) 4 rfl (by decide) rfl dX6_wantedGap_27 ?_
          refine z_goto (pc := 30) (tgt := 3) hX (by decide) dX6_wantedGap_30 ?_
          refine z_at [1, 2, 3, 4, 0] [0, 1] (loc' := [(0, .ref m), (1, .int (iI (a))), (2, .int (iI (b))), (3, .int (iI (q))), (4, .int (iI ((i + 1))))]) (WS' := [(m, .inr (6, [.int (iI (th)), .ref s1, .ref s2, .int (iI (sm)), .ref s3, .int (iI (bI (hs = true))), .ref s4, .int (iI (len)), .ref m1, .ref m2, .ref m3, .ref m4, .int (iI (ax)), .ref l1, .ref l2, .int (iI (rm)), .long (hh)])), (s1, zI G 48 (S))]) rfl (by decide) rfl ?_
          exact ih_3 (i + 1) (by first | assumption | omega | (clear ex hX ih_3; grind [uZ])) (by first | assumption | omega | (clear ex hX ih_3; grind [uZ])) (by rw [hc, lgA_s _ _ (by omega), if_neg (by omega)]) (by omega)
  refine z_at [1, 2, 3, 4, 0] [0, 1] (loc' := [(0, .ref m), (1, .int (iI (a))), (2, .int (iI (b))), (3, .int (iI (q))), (4, .int (iI (0)))]) (WS' := [(m, .inr (6, [.int (iI (th)), .ref s1, .ref s2, .int (iI (sm)), .ref s3, .int (iI (bI (hs = true))), .ref s4, .int (iI (len)), .ref m1, .ref m2, .ref m3, .ref m4, .int (iI (ax)), .ref l1, .ref l2, .int (iI (rm)), .long (hh)])), (s1, zI G 48 (S))]) rfl (by decide) rfl ?_
  exact cut_3 (Int.toNat (40 - 0) + 1) (0) (by first | assumption | omega | (clear ex hX cut_3; grind [uZ])) (by first | assumption | omega | (clear ex hX cut_3; grind [uZ])) (by rfl) (by omega)
theorem hX6_snapped_X6 : ∀ w ∈ wsX60, w ∈ wsX6_snapped := by decide +kernel
theorem kX6_snapped_f7 : Cond.fieldLink RX6 7 "SignLettersModel" "s" "[I" ∈ wsX6_snapped := by decide +kernel
set_option maxHeartbeats 400000 in
set_option maxRecDepth 100000 in
theorem mX6_snapped (G : ZG) (m : Nat) (s1 : Nat) (s2 : Nat) (s3 : Nat) (s4 : Nat) (m1 : Nat) (m2 : Nat) (m3 : Nat) (m4 : Nat) (l1 : Nat) (l2 : Nat) (th : Int) (sm : Int) (len : Int) (ax : Int) (rm : Int) (hs : Bool) (hh : Int64) (S : Int → Int) (p : Int) (hE : okE S) (hp : 0 ≤ p ∧ p ≤ 100000) : zMeti yX6_snapped wsX6_snapped { frames := 0, cells := 0, slots := 0, locals := 0 } G [.ref m, .int (iI (p))] [(m, .inr (6, [.int (iI (th)), .ref s1, .ref s2, .int (iI (sm)), .ref s3, .int (iI (bI (hs = true))), .ref s4, .int (iI (len)), .ref m1, .ref m2, .ref m3, .ref m4, .int (iI (ax)), .ref l1, .ref l2, .int (iI (rm)), .long (hh)])), (s1, zI G 48 (S))] (fun (rr : Int32) (uu : Unit) => rr = iI (snS (S 4) p)) (fun (uu : Unit) => [(m, .inr (6, [.int (iI (th)), .ref s1, .ref s2, .int (iI (sm)), .ref s3, .int (iI (bI (hs = true))), .ref s4, .int (iI (len)), .ref m1, .ref m2, .ref m3, .ref m4, .int (iI (ax)), .ref l1, .ref l2, .int (iI (rm)), .long (hh)])), (s1, zI G 48 (S))]) 0 0 := by
  refine z_meti (cc := cX6_snapped) (nL := 2) (rt := .int) (by decide +kernel) rfl (Nat.le_of_ble_eq_true rfl) (fun X hX ex => ?_)
  have hX : ZOk G X 2 cX6_snapped RX6 wsX6_snapped { frames := 0, cells := 0, slots := 0, locals := 0 } := hX
  show Z G X 2 (0) (0) [(m, .inr (6, [.int (iI (th)), .ref s1, .ref s2, .int (iI (sm)), .ref s3, .int (iI (bI (hs = true))), .ref s4, .int (iI (len)), .ref m1, .ref m2, .ref m3, .ref m4, .int (iI (ax)), .ref l1, .ref l2, .int (iI (rm)), .long (hh)])), (s1, zI G 48 (S))] 0 [(0, .ref m), (1, .int (iI (p)))] []
  have h4E := okE_4 hE
  refine z_aload_n (pc := 0) hX 0 rfl rfl dX6_snapped_0 ?_
  refine z_get (pc := 1) hX (T := TX6) (C := RX6) (N := 17) (i := 7) (ref := "SignLettersModel") (name := "s") (desc := "[I") hX6_snapped_X6 0 rfl rfl 1 (by decide) kX6_snapped_f7 ⟨rfl, rfl, rfl⟩ (v := .ref s1) rfl dX6_snapped_1 ?_
  refine z_iconst (pc := 4) hX dX6_snapped_4 ?_
  refine z_iald (pc := 5) hX (N := 48) (F := S) 1 rfl (by omega) (by omega) dX6_snapped_5 ?_
  refine z_iconst (pc := 6) hX dX6_snapped_6 ?_
  refine z_icmp_le (pc := 7) (tgt := 37) hX (by decide) (by omega) (by omega) dX6_snapped_7 (fun c_1 => ?_) (fun c_1 => ?_)
  · refine z_iload_n (pc := 37) hX 1 rfl rfl dX6_snapped_37 ?_
    exact ex _ _ _ () _ dX6_snapped_38 rfl (congrArg iI (show (p : Int) = snS (S 4) p from by first | exact snM (by omega) | (unfold snS; rw [if_pos (by omega)]))) rfl
  · refine z_iload_n (pc := 10) hX 1 rfl rfl dX6_snapped_10 ?_
    refine z_aload_n (pc := 11) hX 0 rfl rfl dX6_snapped_11 ?_
    refine z_get (pc := 12) hX (T := TX6) (C := RX6) (N := 17) (i := 7) (ref := "SignLettersModel") (name := "s") (desc := "[I") hX6_snapped_X6 0 rfl rfl 1 (by decide) kX6_snapped_f7 ⟨rfl, rfl, rfl⟩ (v := .ref s1) rfl dX6_snapped_12 ?_
    refine z_iconst (pc := 15) hX dX6_snapped_15 ?_
    refine z_iald (pc := 16) hX (N := 48) (F := S) 1 rfl (by omega) (by omega) dX6_snapped_16 ?_
    refine z_iadd (pc := 17) hX dX6_snapped_17 ?_
    refine z_iconst (pc := 18) hX dX6_snapped_18 ?_
    refine z_isub (pc := 19) hX dX6_snapped_19 ?_
    refine z_aload_n (pc := 20) hX 0 rfl rfl dX6_snapped_20 ?_
    refine z_get (pc := 21) hX (T := TX6) (C := RX6) (N := 17) (i := 7) (ref := "SignLettersModel") (name := "s") (desc := "[I") hX6_snapped_X6 0 rfl rfl 1 (by decide) kX6_snapped_f7 ⟨rfl, rfl, rfl⟩ (v := .ref s1) rfl dX6_snapped_21 ?_
    refine z_iconst (pc := 24) hX dX6_snapped_24 ?_
    refine z_iald (pc := 25) hX (N := 48) (F := S) 1 rfl (by omega) (by omega) dX6_snapped_25 ?_
    refine z_idiv (pc := 26) hX (by omega) (by omega) dX6_snapped_26 ?_
    refine z_aload_n (pc := 27) hX 0 rfl rfl dX6_snapped_27 ?_
    refine z_get (pc := 28) hX (T := TX6) (C := RX6) (N := 17) (i := 7) (ref := "SignLettersModel") (name := "s") (desc := "[I") hX6_snapped_X6 0 rfl rfl 1 (by decide) kX6_snapped_f7 ⟨rfl, rfl, rfl⟩ (v := .ref s1) rfl dX6_snapped_28 ?_
    refine z_iconst (pc := 31) hX dX6_snapped_31 ?_
    refine z_iald (pc := 32) hX (N := 48) (F := S) 1 rfl (by omega) (by omega) dX6_snapped_32 ?_
    refine z_imul (pc := 33) hX dX6_snapped_33 ?_
    refine z_goto (pc := 34) (tgt := 38) hX (by decide) dX6_snapped_34 ?_
    exact ex _ _ _ () _ dX6_snapped_38 rfl (congrArg iI (show ((((p + (S 4)) - 1) / (S 4)) * (S 4) : Int) = snS (S 4) p from by first | exact snM (by omega) | (unfold snS; rw [if_pos (by omega)]))) rfl
theorem hX6_beginning_X6 : ∀ w ∈ wsX60, w ∈ wsX6_beginning := by decide +kernel
theorem hdX6_isLetter : yX6_isLetter.cls ≠ "java/lang/invoke/MethodHandle" ∧ yX6_isLetter.cls ≠ "java/lang/invoke/VarHandle" ∧ (parseMethodDescriptor yX6_isLetter.desc).map (fun d => d.parameters.length) = some 1 := by decide +kernel
theorem hdX6_snapped : yX6_snapped.cls ≠ "java/lang/invoke/MethodHandle" ∧ yX6_snapped.cls ≠ "java/lang/invoke/VarHandle" ∧ (parseMethodDescriptor yX6_snapped.desc).map (fun d => d.parameters.length) = some 1 := by decide +kernel
theorem hdX6_wantedGap : yX6_wantedGap.cls ≠ "java/lang/invoke/MethodHandle" ∧ yX6_wantedGap.cls ≠ "java/lang/invoke/VarHandle" ∧ (parseMethodDescriptor yX6_wantedGap.desc).map (fun d => d.parameters.length) = some 3 := by decide +kernel
theorem kX6_beginning_f7 : Cond.fieldLink RX6 7 "SignLettersModel" "s" "[I" ∈ wsX6_beginning := by decide +kernel
set_option maxHeartbeats 400000 in
set_option maxRecDepth 100000 in
theorem mX6_beginning (G : ZG) (m : Nat) (s1 : Nat) (s2 : Nat) (s3 : Nat) (s4 : Nat) (m1 : Nat) (m2 : Nat) (m3 : Nat) (m4 : Nat) (l1 : Nat) (l2 : Nat) (th : Int) (sm : Int) (len : Int) (ax : Int) (rm : Int) (hs : Bool) (hh : Int64) (S : Int → Int) (p : Int) (q : Int) (e : Int) (hE : okE S) (hn : 0 ≤ S 7 ∧ S 7 ≤ 20) (hF : okF (sF S) (S 7)) (hK : okK (sK S) (S 7)) (hp : 0 ≤ p ∧ p < S 7) (hl : letA (sF S) (S 7) p ≠ -1) (hq : -5 ≤ q ∧ q ≤ 5) (he : 0 ≤ e ∧ e ≤ 10000) : zMeti yX6_beginning wsX6_beginning { frames := 4, cells := 0, slots := 0, locals := 96 } G [.ref m, .int (iI (p)), .int (iI (q)), .int (iI (e))] [(m, .inr (6, [.int (iI (th)), .ref s1, .ref s2, .int (iI (sm)), .ref s3, .int (iI (bI (hs = true))), .ref s4, .int (iI (len)), .ref m1, .ref m2, .ref m3, .ref m4, .int (iI (ax)), .ref l1, .ref l2, .int (iI (rm)), .long (hh)])), (s1, zI G 48 (S))] (fun (rr : Int32) (uu : Unit) => rr = iI (bgM S (sF S) (S 7) p q e)) (fun (uu : Unit) => [(m, .inr (6, [.int (iI (th)), .ref s1, .ref s2, .int (iI (sm)), .ref s3, .int (iI (bI (hs = true))), .ref s4, .int (iI (len)), .ref m1, .ref m2, .ref m3, .ref m4, .int (iI (ax)), .ref l1, .ref l2, .int (iI (rm)), .long (hh)])), (s1, zI G 48 (S))]) 0 0 := by
  refine z_meti (cc := cX6_beginning) (nL := 6) (rt := .int) (by decide +kernel) rfl (Nat.le_of_ble_eq_true rfl) (fun X hX ex => ?_)
  have hX : ZOk G X 6 cX6_beginning RX6 wsX6_beginning { frames := 4, cells := 0, slots := 0, locals := 96 } := hX
  show Z G X 6 (0) (0) [(m, .inr (6, [.int (iI (th)), .ref s1, .ref s2, .int (iI (sm)), .ref s3, .int (iI (bI (hs = true))), .ref s4, .int (iI (len)), .ref m1, .ref m2, .ref m3, .ref m4, .int (iI (ax)), .ref l1, .ref l2, .int (iI (rm)), .long (hh)])), (s1, zI G 48 (S))] 0 [(0, .ref m), (1, .int (iI (p))), (2, .int (iI (q))), (3, .int (iI (e)))] []
  have hlp := letA_r (j := p) hF
  have hfp : letA (sF S) (S 7) p = S (8 + p) := letA_i hp
  refine z_iload_n (pc := 0) hX 1 rfl rfl dX6_beginning_0 ?_
  refine z_if_ne (pc := 1) (tgt := 6) hX (by decide) (by omega) dX6_beginning_1 (fun c_1 => ?_) (fun c_1 => ?_)
  · refine z_aload_n (pc := 6) hX 0 rfl rfl dX6_beginning_6 ?_
    refine z_iload_n (pc := 7) hX 1 rfl rfl dX6_beginning_7 ?_
    refine z_iconst (pc := 8) hX dX6_beginning_8 ?_
    refine z_isub (pc := 9) hX dX6_beginning_9 ?_
    refine z_callV_i (pc := 10) (As := [.int (iI (p - 1))]) (rest := []) (wc := [(m, .inr (6, [.int (iI (th)), .ref s1, .ref s2, .int (iI (sm)), .ref s3, .int (iI (bI (hs = true))), .ref s4, .int (iI (len)), .ref m1, .ref m2, .ref m3, .ref m4, .int (iI (ax)), .ref l1, .ref l2, .int (iI (rm)), .long (hh)])), (s1, zI G 48 (S))]) (wr := []) hX (mX6_isLetter G (m) (s1) (s2) (s3) (s4) (m1) (m2) (m3) (m4) (l1) (l2) (th) (sm) (len) (ax) (rm) (hs) (hh) (S) (p - 1) (by first | assumption | omega | (clear ex hX; grind [uZ])) (by first | assumption | omega | (clear ex hX; grind [uZ])) (by first | assumption | omega | (clear ex hX; grind [uZ]))) rfl rfl rfl (C := RX6) gX6_beginning_X6_isLetter ⟨rfl, hdX6_isLetter⟩ (T := TX6) (N := 17) 0 rfl rfl ⟨Nat.le_of_ble_eq_true rfl, Nat.le_of_ble_eq_true rfl⟩ [0, 1] [] rfl rfl (by decide) (by decide) (by decide) rfl (Nat.le_of_ble_eq_true rfl) ⟨Nat.le_of_ble_eq_true rfl, Nat.le_of_ble_eq_true rfl⟩ dX6_beginning_10 (fun r_2 u_2 h_2 => ?_)
    subst h_2
    show Z G X 6 (0) (0) [(m, .inr (6, [.int (iI (th)), .ref s1, .ref s2, .int (iI (sm)), .ref s3, .int (iI (bI (hs = true))), .ref s4, .int (iI (len)), .ref m1, .ref m2, .ref m3, .ref m4, .int (iI (ax)), .ref l1, .ref l2, .int (iI (rm)), .long (hh)])), (s1, zI G 48 (S))] 13 [(0, .ref m), (1, .int (iI (p))), (2, .int (iI (q))), (3, .int (iI (e)))] [.int (iI (bI (letA (sF S) (S 7) (p - 1) ≠ -1)))]
    refine z_istore (pc := 13) hX (loc' := [(4, .int (iI (bI (letA (sF S) (S 7) (p - 1) ≠ -1)))), (0, .ref m), (1, .int (iI (p))), (2, .int (iI (q))), (3, .int (iI (e)))]) (by decide) rfl dX6_beginning_13 ?_
    refine z_iload (pc := 15) hX 0 rfl dX6_beginning_15 ?_
    refine z_bif_eq (pc := 17) (tgt := 48) hX (by decide) dX6_beginning_17 (fun c_3 => ?_) (fun c_3 => ?_)
    · refine z_iconst (pc := 48) hX dX6_beginning_48 ?_
      refine z_istore (pc := 49) hX (loc' := [(5, .int (iI (0))), (4, .int (iI (bI (letA (sF S) (S 7) (p - 1) ≠ -1)))), (0, .ref m), (1, .int (iI (p))), (2, .int (iI (q))), (3, .int (iI (e)))]) (by decide) rfl dX6_beginning_49 ?_
      refine z_aload_n (pc := 51) hX 2 rfl rfl dX6_beginning_51 ?_
      refine z_iload_n (pc := 52) hX 5 rfl rfl dX6_beginning_52 ?_
      refine z_iload (pc := 53) hX 0 rfl dX6_beginning_53 ?_
      refine z_iadd (pc := 55) hX dX6_beginning_55 ?_
      refine z_callV_i (pc := 56) (As := [.int (iI (e + 0))]) (rest := []) (wc := [(m, .inr (6, [.int (iI (th)), .ref s1, .ref s2, .int (iI (sm)), .ref s3, .int (iI (bI (hs = true))), .ref s4, .int (iI (len)), .ref m1, .ref m2, .ref m3, .ref m4, .int (iI (ax)), .ref l1, .ref l2, .int (iI (rm)), .long (hh)])), (s1, zI G 48 (S))]) (wr := []) hX (mX6_snapped G (m) (s1) (s2) (s3) (s4) (m1) (m2) (m3) (m4) (l1) (l2) (th) (sm) (len) (ax) (rm) (hs) (hh) (S) (e + 0) (by first | assumption | omega | (clear ex hX; grind [uZ])) (by first | assumption | omega | (clear ex hX; grind [uZ]))) rfl rfl rfl (C := RX6) gX6_beginning_X6_snapped ⟨rfl, hdX6_snapped⟩ (T := TX6) (N := 17) 0 rfl rfl ⟨Nat.le_of_ble_eq_true rfl, Nat.le_of_ble_eq_true rfl⟩ [0, 1] [] rfl rfl (by decide) (by decide) (by decide) rfl (Nat.le_of_ble_eq_true rfl) ⟨Nat.le_of_ble_eq_true rfl, Nat.le_of_ble_eq_true rfl⟩ dX6_beginning_56 (fun r_4 u_4 h_4 => ?_)
      subst h_4
      show Z G X 6 (0) (0) [(m, .inr (6, [.int (iI (th)), .ref s1, .ref s2, .int (iI (sm)), .ref s3, .int (iI (bI (hs = true))), .ref s4, .int (iI (len)), .ref m1, .ref m2, .ref m3, .ref m4, .int (iI (ax)), .ref l1, .ref l2, .int (iI (rm)), .long (hh)])), (s1, zI G 48 (S))] 59 [(5, .int (iI (0))), (4, .int (iI (bI (letA (sF S) (S 7) (p - 1) ≠ -1)))), (0, .ref m), (1, .int (iI (p))), (2, .int (iI (q))), (3, .int (iI (e)))] [.int (iI (snS (S 4) (e + 0)))]
      exact ex _ _ _ () _ dX6_beginning_59 rfl (congrArg iI (show (snS (S 4) (e + 0) : Int) = bgM S (sF S) (S 7) p q e from by unfold bgM; rw [if_neg (show ¬ p = 0 by omega)]; first | (rw [if_pos (show letA (sF S) (S 7) (p - 1) ≠ -1 by assumption)]; done) | (rw [if_neg (show ¬ letA (sF S) (S 7) (p - 1) ≠ -1 by assumption)]; done))) rfl
    · have hpr : prS (sF S) (S 7) p = true := prS_t.mpr ⟨by assumption, hl⟩
      have hfq : letA (sF S) (S 7) (p - 1) = S (8 + p - 1) := by rw [letA_i (by omega)]; unfold sF; rw [show (8 : Int) + (p - 1) = 8 + p - 1 by omega]
      have hlq := letA_r (j := p - 1) hF
      refine z_aload_n (pc := 20) hX 1 rfl rfl dX6_beginning_20 ?_
      refine z_aload_n (pc := 21) hX 1 rfl rfl dX6_beginning_21 ?_
      refine z_get (pc := 22) hX (T := TX6) (C := RX6) (N := 17) (i := 7) (ref := "SignLettersModel") (name := "s") (desc := "[I") hX6_beginning_X6 0 rfl rfl 1 (by decide) kX6_beginning_f7 ⟨rfl, rfl, rfl⟩ (v := .ref s1) rfl dX6_beginning_22 ?_
      refine z_bipush (pc := 25) hX (z := 8) (by decide +kernel) dX6_beginning_25 ?_
      refine z_iload_n (pc := 27) hX 2 rfl rfl dX6_beginning_27 ?_
      refine z_iadd (pc := 28) hX dX6_beginning_28 ?_
      refine z_iconst (pc := 29) hX dX6_beginning_29 ?_
      refine z_isub (pc := 30) hX dX6_beginning_30 ?_
      refine z_iald (pc := 31) hX (N := 48) (F := S) 1 rfl (by omega) (by omega) dX6_beginning_31 ?_
      refine z_aload_n (pc := 32) hX 1 rfl rfl dX6_beginning_32 ?_
      refine z_get (pc := 33) hX (T := TX6) (C := RX6) (N := 17) (i := 7) (ref := "SignLettersModel") (name := "s") (desc := "[I") hX6_beginning_X6 0 rfl rfl 1 (by decide) kX6_beginning_f7 ⟨rfl, rfl, rfl⟩ (v := .ref s1) rfl dX6_beginning_33 ?_
      refine z_bipush (pc := 36) hX (z := 8) (by decide +kernel) dX6_beginning_36 ?_
      refine z_iload_n (pc := 38) hX 2 rfl rfl dX6_beginning_38 ?_
      refine z_iadd (pc := 39) hX dX6_beginning_39 ?_
      refine z_iald (pc := 40) hX (N := 48) (F := S) 1 rfl (by omega) (by omega) dX6_beginning_40 ?_
      refine z_iload_n (pc := 41) hX 3 rfl rfl dX6_beginning_41 ?_
      refine z_callV_i (pc := 42) (As := [.int (iI (S ((8 + p) - 1))), .int (iI (S (8 + p))), .int (iI (q))]) (rest := []) (wc := [(m, .inr (6, [.int (iI (th)), .ref s1, .ref s2, .int (iI (sm)), .ref s3, .int (iI (bI (hs = true))), .ref s4, .int (iI (len)), .ref m1, .ref m2, .ref m3, .ref m4, .int (iI (ax)), .ref l1, .ref l2, .int (iI (rm)), .long (hh)])), (s1, zI G 48 (S))]) (wr := []) hX (mX6_wantedGap G (m) (s1) (s2) (s3) (s4) (m1) (m2) (m3) (m4) (l1) (l2) (th) (sm) (len) (ax) (rm) (hs) (hh) (S) (S ((8 + p) - 1)) (S (8 + p)) (q) (by first | assumption | omega | (clear ex hX; grind [uZ])) (by first | assumption | omega | (clear ex hX; grind [uZ])) (by first | assumption | omega | (clear ex hX; grind [uZ])) (by first | assumption | omega | (clear ex hX; grind [uZ]))) rfl rfl rfl (C := RX6) gX6_beginning_X6_wantedGap ⟨rfl, hdX6_wantedGap⟩ (T := TX6) (N := 17) 0 rfl rfl ⟨Nat.le_of_ble_eq_true rfl, Nat.le_of_ble_eq_true rfl⟩ [0, 1] [] rfl rfl (by decide) (by decide) (by decide) rfl (Nat.le_of_ble_eq_true rfl) ⟨Nat.le_of_ble_eq_true rfl, Nat.le_of_ble_eq_true rfl⟩ dX6_beginning_42 (fun r_5 u_5 h_5 => ?_)
      subst h_5
      have e_5 : (if 0 < lgS (inZ S (S ((8 + p) - 1)) (S (8 + p))) (S 1) (S 3) + q then lgS (inZ S (S ((8 + p) - 1)) (S (8 + p))) (S 1) (S 3) + q else 0 : Int) = if 0 < lgP S (sF S) (S 7) p + q then lgP S (sF S) (S 7) p + q else 0 := by rw [inZ_s hpr]; rfl
      rw [e_5]
      have hlg := lgS_r (inS S (sF S) (S 7) p) (S 1) (S 3)
      have hz9 : 0 ≤ (if 0 < lgP S (sF S) (S 7) p + q then lgP S (sF S) (S 7) p + q else 0) ∧ (if 0 < lgP S (sF S) (S 7) p + q then lgP S (sF S) (S 7) p + q else 0) ≤ 45 := by unfold lgP; split <;> omega
      show Z G X 6 (0) (0) [(m, .inr (6, [.int (iI (th)), .ref s1, .ref s2, .int (iI (sm)), .ref s3, .int (iI (bI (hs = true))), .ref s4, .int (iI (len)), .ref m1, .ref m2, .ref m3, .ref m4, .int (iI (ax)), .ref l1, .ref l2, .int (iI (rm)), .long (hh)])), (s1, zI G 48 (S))] 45 [(4, .int (iI (bI (letA (sF S) (S 7) (p - 1) ≠ -1)))), (0, .ref m), (1, .int (iI (p))), (2, .int (iI (q))), (3, .int (iI (e)))] [.int (iI (if 0 < lgP S (sF S) (S 7) p + q then lgP S (sF S) (S 7) p + q else 0))]
      refine z_goto (pc := 45) (tgt := 49) hX (by decide) dX6_beginning_45 ?_
      refine z_istore (pc := 49) hX (loc' := [(5, .int (iI (if 0 < lgP S (sF S) (S 7) p + q then lgP S (sF S) (S 7) p + q else 0))), (4, .int (iI (bI (letA (sF S) (S 7) (p - 1) ≠ -1)))), (0, .ref m), (1, .int (iI (p))), (2, .int (iI (q))), (3, .int (iI (e)))]) (by decide) rfl dX6_beginning_49 ?_
      refine z_aload_n (pc := 51) hX 2 rfl rfl dX6_beginning_51 ?_
      refine z_iload_n (pc := 52) hX 5 rfl rfl dX6_beginning_52 ?_
      refine z_iload (pc := 53) hX 0 rfl dX6_beginning_53 ?_
      refine z_iadd (pc := 55) hX dX6_beginning_55 ?_
      refine z_callV_i (pc := 56) (As := [.int (iI (e + (if 0 < lgP S (sF S) (S 7) p + q then lgP S (sF S) (S 7) p + q else 0)))]) (rest := []) (wc := [(m, .inr (6, [.int (iI (th)), .ref s1, .ref s2, .int (iI (sm)), .ref s3, .int (iI (bI (hs = true))), .ref s4, .int (iI (len)), .ref m1, .ref m2, .ref m3, .ref m4, .int (iI (ax)), .ref l1, .ref l2, .int (iI (rm)), .long (hh)])), (s1, zI G 48 (S))]) (wr := []) hX (mX6_snapped G (m) (s1) (s2) (s3) (s4) (m1) (m2) (m3) (m4) (l1) (l2) (th) (sm) (len) (ax) (rm) (hs) (hh) (S) (e + (if 0 < lgP S (sF S) (S 7) p + q then lgP S (sF S) (S 7) p + q else 0)) (by first | assumption | omega | (clear ex hX; grind [uZ])) (by first | assumption | omega | (clear ex hX; grind [uZ]))) rfl rfl rfl (C := RX6) gX6_beginning_X6_snapped ⟨rfl, hdX6_snapped⟩ (T := TX6) (N := 17) 0 rfl rfl ⟨Nat.le_of_ble_eq_true rfl, Nat.le_of_ble_eq_true rfl⟩ [0, 1] [] rfl rfl (by decide) (by decide) (by decide) rfl (Nat.le_of_ble_eq_true rfl) ⟨Nat.le_of_ble_eq_true rfl, Nat.le_of_ble_eq_true rfl⟩ dX6_beginning_56 (fun r_6 u_6 h_6 => ?_)
      subst h_6
      show Z G X 6 (0) (0) [(m, .inr (6, [.int (iI (th)), .ref s1, .ref s2, .int (iI (sm)), .ref s3, .int (iI (bI (hs = true))), .ref s4, .int (iI (len)), .ref m1, .ref m2, .ref m3, .ref m4, .int (iI (ax)), .ref l1, .ref l2, .int (iI (rm)), .long (hh)])), (s1, zI G 48 (S))] 59 [(5, .int (iI (if 0 < lgP S (sF S) (S 7) p + q then lgP S (sF S) (S 7) p + q else 0))), (4, .int (iI (bI (letA (sF S) (S 7) (p - 1) ≠ -1)))), (0, .ref m), (1, .int (iI (p))), (2, .int (iI (q))), (3, .int (iI (e)))] [.int (iI (snS (S 4) (e + (if 0 < lgP S (sF S) (S 7) p + q then lgP S (sF S) (S 7) p + q else 0))))]
      exact ex _ _ _ () _ dX6_beginning_59 rfl (congrArg iI (show (snS (S 4) (e + (if 0 < lgP S (sF S) (S 7) p + q then lgP S (sF S) (S 7) p + q else 0)) : Int) = bgM S (sF S) (S 7) p q e from by unfold bgM; rw [if_neg (show ¬ p = 0 by omega)]; first | (rw [if_pos (show letA (sF S) (S 7) (p - 1) ≠ -1 by assumption)]; done) | (rw [if_neg (show ¬ letA (sF S) (S 7) (p - 1) ≠ -1 by assumption)]; done))) rfl
  · refine z_iconst (pc := 4) hX dX6_beginning_4 ?_
    exact ex _ _ _ () _ dX6_beginning_5 rfl (congrArg iI (show (0 : Int) = bgM S (sF S) (S 7) p q e from by unfold bgM; rw [if_pos (by omega)])) rfl
theorem hX6_lays_X6 : ∀ w ∈ wsX60, w ∈ wsX6_lays := by decide +kernel
theorem hdX6_beginning : yX6_beginning.cls ≠ "java/lang/invoke/MethodHandle" ∧ yX6_beginning.cls ≠ "java/lang/invoke/VarHandle" ∧ (parseMethodDescriptor yX6_beginning.desc).map (fun d => d.parameters.length) = some 3 := by decide +kernel
theorem hdX6_widthOf : yX6_widthOf.cls ≠ "java/lang/invoke/MethodHandle" ∧ yX6_widthOf.cls ≠ "java/lang/invoke/VarHandle" ∧ (parseMethodDescriptor yX6_widthOf.desc).map (fun d => d.parameters.length) = some 1 := by decide +kernel
theorem kX6_lays_f22 : Cond.fieldLink RX6 22 "SignLettersModel" "begins" "[I" ∈ wsX6_lays := by decide +kernel
theorem kX6_lays_f25 : Cond.fieldLink RX6 25 "SignLettersModel" "ends" "[I" ∈ wsX6_lays := by decide +kernel
theorem kX6_lays_f28 : Cond.fieldLink RX6 28 "SignLettersModel" "gaps" "[I" ∈ wsX6_lays := by decide +kernel
theorem kX6_lays_f31 : Cond.fieldLink RX6 31 "SignLettersModel" "areas" "[I" ∈ wsX6_lays := by decide +kernel
theorem kX6_lays_f7 : Cond.fieldLink RX6 7 "SignLettersModel" "s" "[I" ∈ wsX6_lays := by decide +kernel
set_option maxHeartbeats 400000 in
set_option maxRecDepth 100000 in
theorem mX6_lays (G : ZG) (m : Nat) (s1 : Nat) (s2 : Nat) (s3 : Nat) (s4 : Nat) (m1 : Nat) (m2 : Nat) (m3 : Nat) (m4 : Nat) (l1 : Nat) (l2 : Nat) (th : Int) (sm : Int) (len : Int) (ax : Int) (rm : Int) (hs : Bool) (hh : Int64) (S : Int → Int) (B0 : Int → Int) (N0 : Int → Int) (G0 : Int → Int) (A : Int → Int) (hE : okE S) (hn : 0 ≤ S 7 ∧ S 7 ≤ 20) (hF : okF (sF S) (S 7)) (hK : okK (sK S) (S 7)) : zMetv yX6_lays wsX6_lays { frames := 5, cells := 0, slots := 0, locals := 121 } G [.ref m] [(m, .inr (6, [.int (iI (th)), .ref s1, .ref s2, .int (iI (sm)), .ref s3, .int (iI (bI (hs = true))), .ref s4, .int (iI (len)), .ref m1, .ref m2, .ref m3, .ref m4, .int (iI (ax)), .ref l1, .ref l2, .int (iI (rm)), .long (hh)])), (s1, zI G 48 (S)), (m1, zI G 20 (B0)), (m2, zI G 20 (N0)), (m3, zI G 20 (G0)), (m4, zI G 20 (A))] (fun (uu : (Int → Int) × (Int → Int) × (Int → Int) × (Int → Int)) => lyM S uu.1 uu.2.1 uu.2.2.1 uu.2.2.2) (fun (uu : (Int → Int) × (Int → Int) × (Int → Int) × (Int → Int)) => [(m, .inr (6, [.int (iI (th)), .ref s1, .ref s2, .int (iI (sm)), .ref s3, .int (iI (bI (hs = true))), .ref s4, .int (iI (len)), .ref m1, .ref m2, .ref m3, .ref m4, .int (iI (ax)), .ref l1, .ref l2, .int (iI (rm)), .long (hh)])), (s1, zI G 48 (S)), (m1, zI G 20 (uu.1)), (m2, zI G 20 (uu.2.1)), (m3, zI G 20 (uu.2.2.1)), (m4, zI G 20 (uu.2.2.2))]) 0 0 := by
  refine z_metv (cc := cX6_lays) (nL := 5) (by decide +kernel) rfl (Nat.le_of_ble_eq_true rfl) (fun X hX ex => ?_)
  have hX : ZOk G X 5 cX6_lays RX6 wsX6_lays { frames := 5, cells := 0, slots := 0, locals := 121 } := hX
  show Z G X 5 (0) (0) [(m, .inr (6, [.int (iI (th)), .ref s1, .ref s2, .int (iI (sm)), .ref s3, .int (iI (bI (hs = true))), .ref s4, .int (iI (len)), .ref m1, .ref m2, .ref m3, .ref m4, .int (iI (ax)), .ref l1, .ref l2, .int (iI (rm)), .long (hh)])), (s1, zI G 48 (S)), (m1, zI G 20 (B0)), (m2, zI G 20 (N0)), (m3, zI G 20 (G0)), (m4, zI G 20 (A))] 0 [(0, .ref m)] []
  refine z_iconst (pc := 0) hX dX6_lays_0 ?_
  refine z_istore_n (pc := 1) hX (loc' := [(1, .int (iI (0))), (0, .ref m)]) rfl (by decide) rfl dX6_lays_1 ?_
  refine z_iconst (pc := 2) hX dX6_lays_2 ?_
  refine z_istore_n (pc := 3) hX (loc' := [(2, .int (iI (0))), (1, .int (iI (0))), (0, .ref m)]) rfl (by decide) rfl dX6_lays_3 ?_
  have cut_4 : ∀ (fz : Nat) (i : Int) (B1 : Int → Int) (N1 : Int → Int) (G1 : Int → Int) (A1 : Int → Int) (h0 : 0 ≤ i) (h1 : i ≤ S 7) (hB : ∀ j : Int, 0 ≤ j → j < i → B1 j = bgA S (sF S) (sK S) (S 7) j) (hN : ∀ j : Int, 0 ≤ j → j < i → N1 j = enA S (sF S) (sK S) (S 7) (j + 1)) (hG : ∀ j : Int, 0 ≤ j → j < i → G1 j = gpA S (sF S) (sK S) (S 7) j) (hA : ∀ j : Int, 0 ≤ j → j < i → A1 j = arA S (sF S) (sK S) (S 7) j) (hm_4 : S 7 - i < (fz : Int)), Z G X 5 (0) (0) [(m, .inr (6, [.int (iI (th)), .ref s1, .ref s2, .int (iI (sm)), .ref s3, .int (iI (bI (hs = true))), .ref s4, .int (iI (len)), .ref m1, .ref m2, .ref m3, .ref m4, .int (iI (ax)), .ref l1, .ref l2, .int (iI (rm)), .long (hh)])), (s1, zI G 48 (S)), (m1, zI G 20 (B1)), (m2, zI G 20 (N1)), (m3, zI G 20 (G1)), (m4, zI G 20 (A1))] 4 [(0, .ref m), (1, .int (iI (enA S (sF S) (sK S) (S 7) (i)))), (2, .int (iI (i)))] [] := by
    intro fz
    induction fz with
    | zero =>
      intro i B1 N1 G1 A1 h0 h1 hB hN hG hA hm_4
      exfalso
      omega
    | succ fz ih =>
      intro i B1 N1 G1 A1 h0 h1 hB hN hG hA hm_4
      have ih_4 := ih
      clear ih
      refine z_iload_n (pc := 4) hX 2 rfl rfl dX6_lays_4 ?_
      refine z_aload_n (pc := 5) hX 0 rfl rfl dX6_lays_5 ?_
      refine z_get (pc := 6) hX (T := TX6) (C := RX6) (N := 17) (i := 7) (ref := "SignLettersModel") (name := "s") (desc := "[I") hX6_lays_X6 0 rfl rfl 1 (by decide) kX6_lays_f7 ⟨rfl, rfl, rfl⟩ (v := .ref s1) rfl dX6_lays_6 ?_
      refine z_bipush (pc := 9) hX (z := 7) (by decide +kernel) dX6_lays_9 ?_
      refine z_iald (pc := 11) hX (N := 48) (F := S) 1 rfl (by omega) (by omega) dX6_lays_11 ?_
      refine z_icmp_ge (pc := 12) (tgt := 189) hX (by decide) (by omega) (by omega) dX6_lays_12 (fun c_1 => ?_) (fun c_1 => ?_)
      · exact ex _ _ ((B1), (N1), (G1), (A1)) _ dX6_lays_189 (by have e9 : i = S 7 := (by omega); rw [e9] at hB hN hG hA; exact ⟨hB, hN, hG, hA⟩) rfl
      · have hen := enA_r (p := i) hE hF hK ⟨h0, by omega⟩
        have hlp := letA_r (j := i) hF
        have hfp : letA (sF S) (S 7) i = S (8 + i) := letA_i (by omega)
        have hkp := hK i (by omega) (by omega)
        unfold sK at hkp
        refine z_aload_n (pc := 15) hX 0 rfl rfl dX6_lays_15 ?_
        refine z_iload_n (pc := 16) hX 2 rfl rfl dX6_lays_16 ?_
        refine z_callV_i (pc := 17) (As := [.int (iI (i))]) (rest := []) (wc := [(m, .inr (6, [.int (iI (th)), .ref s1, .ref s2, .int (iI (sm)), .ref s3, .int (iI (bI (hs = true))), .ref s4, .int (iI (len)), .ref m1, .ref m2, .ref m3, .ref m4, .int (iI (ax)), .ref l1, .ref l2, .int (iI (rm)), .long (hh)])), (s1, zI G 48 (S))]) (wr := [(m1, zI G 20 (B1)), (m2, zI G 20 (N1)), (m3, zI G 20 (G1)), (m4, zI G 20 (A1))]) hX (mX6_isLetter G (m) (s1) (s2) (s3) (s4) (m1) (m2) (m3) (m4) (l1) (l2) (th) (sm) (len) (ax) (rm) (hs) (hh) (S) (i) (by first | assumption | omega | (clear ex hX ih_4; grind [uZ])) (by first | assumption | omega | (clear ex hX ih_4; grind [uZ])) (by first | assumption | omega | (clear ex hX ih_4; grind [uZ]))) rfl rfl rfl (C := RX6) gX6_lays_X6_isLetter ⟨rfl, hdX6_isLetter⟩ (T := TX6) (N := 17) 0 rfl rfl ⟨Nat.le_of_ble_eq_true rfl, Nat.le_of_ble_eq_true rfl⟩ [0, 1] [2, 3, 4, 5] rfl rfl (by decide) (by decide) (by decide) rfl (Nat.le_of_ble_eq_true rfl) ⟨Nat.le_of_ble_eq_true rfl, Nat.le_of_ble_eq_true rfl⟩ dX6_lays_17 (fun r_2 u_2 h_2 => ?_)
        subst h_2
        show Z G X 5 (0) (0) [(m1, zI G 20 (B1)), (m2, zI G 20 (N1)), (m3, zI G 20 (G1)), (m4, zI G 20 (A1)), (m, .inr (6, [.int (iI (th)), .ref s1, .ref s2, .int (iI (sm)), .ref s3, .int (iI (bI (hs = true))), .ref s4, .int (iI (len)), .ref m1, .ref m2, .ref m3, .ref m4, .int (iI (ax)), .ref l1, .ref l2, .int (iI (rm)), .long (hh)])), (s1, zI G 48 (S))] 20 [(0, .ref m), (1, .int (iI (enA S (sF S) (sK S) (S 7) (i)))), (2, .int (iI (i)))] [.int (iI (bI (letA (sF S) (S 7) i ≠ -1)))]
        refine z_istore_n (pc := 20) hX (loc' := [(3, .int (iI (bI (letA (sF S) (S 7) i ≠ -1)))), (0, .ref m), (1, .int (iI (enA S (sF S) (sK S) (S 7) (i)))), (2, .int (iI (i)))]) rfl (by decide) rfl dX6_lays_20 ?_
        refine z_aload_n (pc := 21) hX 1 rfl rfl dX6_lays_21 ?_
        refine z_get (pc := 22) hX (T := TX6) (C := RX6) (N := 17) (i := 22) (ref := "SignLettersModel") (name := "begins") (desc := "[I") hX6_lays_X6 4 rfl rfl 8 (by decide) kX6_lays_f22 ⟨rfl, rfl, rfl⟩ (v := .ref m1) rfl dX6_lays_22 ?_
        refine z_iload_n (pc := 25) hX 3 rfl rfl dX6_lays_25 ?_
        refine z_iload_n (pc := 26) hX 0 rfl rfl dX6_lays_26 ?_
        refine z_bif_eq (pc := 27) (tgt := 48) hX (by decide) dX6_lays_27 (fun c_3 => ?_) (fun c_3 => ?_)
        · refine z_iload_n (pc := 48) hX 2 rfl rfl dX6_lays_48 ?_
          refine z_iast (pc := 49) hX (N := 20) (F := B1) (WS' := [(m1, zI G 20 (uZ B1 i (enA S (sF S) (sK S) (S 7) (i)))), (m2, zI G 20 (N1)), (m3, zI G 20 (G1)), (m4, zI G 20 (A1)), (m, .inr (6, [.int (iI (th)), .ref s1, .ref s2, .int (iI (sm)), .ref s3, .int (iI (bI (hs = true))), .ref s4, .int (iI (len)), .ref m1, .ref m2, .ref m3, .ref m4, .int (iI (ax)), .ref l1, .ref l2, .int (iI (rm)), .long (hh)])), (s1, zI G 48 (S))]) 0 rfl (by omega) (by omega) rfl dX6_lays_49 ?_
          refine z_arrX (N := 20) (F := uZ B1 i (enA S (sF S) (sK S) (S 7) (i))) (F1 := uZ B1 i (bgA S (sF S) (sK S) (S 7) (i))) (WS1 := [(m1, zI G 20 (uZ B1 i (bgA S (sF S) (sK S) (S 7) (i)))), (m2, zI G 20 (N1)), (m3, zI G 20 (G1)), (m4, zI G 20 (A1)), (m, .inr (6, [.int (iI (th)), .ref s1, .ref s2, .int (iI (sm)), .ref s3, .int (iI (bI (hs = true))), .ref s4, .int (iI (len)), .ref m1, .ref m2, .ref m3, .ref m4, .int (iI (ax)), .ref l1, .ref l2, .int (iI (rm)), .long (hh)])), (s1, zI G 48 (S))]) 0 rfl (fun j hj0 hj1 => by first | exact congrArg (fun z_ : Int => uZ B1 i z_ j) (bgM_eq (K := sK S) (by omega) (by assumption)) | exact congrArg (fun z_ : Int => uZ B1 i z_ j) (bgA_no (by assumption))) rfl ?_
          refine z_iload_n (pc := 50) hX 0 rfl rfl dX6_lays_50 ?_
          refine z_bif_eq (pc := 51) (tgt := 72) hX (by decide) dX6_lays_51 (fun c_4 => ?_) (fun c_4 => by first | exact absurd c_4 c_3 | exact absurd c_3 c_4)
          refine z_iconst (pc := 72) hX dX6_lays_72 ?_
          refine z_istore (pc := 73) hX (loc' := [(4, .int (iI (0))), (3, .int (iI (bI (letA (sF S) (S 7) i ≠ -1)))), (0, .ref m), (1, .int (iI (enA S (sF S) (sK S) (S 7) (i)))), (2, .int (iI (i)))]) (by decide) rfl dX6_lays_73 ?_
          refine z_aload_n (pc := 75) hX 2 rfl rfl dX6_lays_75 ?_
          refine z_get (pc := 76) hX (T := TX6) (C := RX6) (N := 17) (i := 28) (ref := "SignLettersModel") (name := "gaps") (desc := "[I") hX6_lays_X6 4 rfl rfl 10 (by decide) kX6_lays_f28 ⟨rfl, rfl, rfl⟩ (v := .ref m3) rfl dX6_lays_76 ?_
          refine z_iload_n (pc := 79) hX 4 rfl rfl dX6_lays_79 ?_
          refine z_iload (pc := 80) hX 0 rfl dX6_lays_80 ?_
          refine z_if_eq (pc := 82) (tgt := 96) hX (by decide) (by omega) dX6_lays_82 (fun c_5 => ?_) (fun c_5 => absurd c_5 (by first | omega | (clear ex hX ih_4; grind [uZ])))
          refine z_iconst (pc := 96) hX dX6_lays_96 ?_
          refine z_iast (pc := 97) hX (N := 20) (F := G1) (WS' := [(m1, zI G 20 (uZ B1 i (bgA S (sF S) (sK S) (S 7) (i)))), (m2, zI G 20 (N1)), (m3, zI G 20 (uZ G1 i (-1))), (m4, zI G 20 (A1)), (m, .inr (6, [.int (iI (th)), .ref s1, .ref s2, .int (iI (sm)), .ref s3, .int (iI (bI (hs = true))), .ref s4, .int (iI (len)), .ref m1, .ref m2, .ref m3, .ref m4, .int (iI (ax)), .ref l1, .ref l2, .int (iI (rm)), .long (hh)])), (s1, zI G 48 (S))]) 2 rfl (by omega) (by omega) rfl dX6_lays_97 ?_
          refine z_arrX (N := 20) (F := uZ G1 i (-1)) (F1 := uZ G1 i (gpA S (sF S) (sK S) (S 7) (i))) (WS1 := [(m1, zI G 20 (uZ B1 i (bgA S (sF S) (sK S) (S 7) (i)))), (m2, zI G 20 (N1)), (m3, zI G 20 (uZ G1 i (gpA S (sF S) (sK S) (S 7) (i)))), (m4, zI G 20 (A1)), (m, .inr (6, [.int (iI (th)), .ref s1, .ref s2, .int (iI (sm)), .ref s3, .int (iI (bI (hs = true))), .ref s4, .int (iI (len)), .ref m1, .ref m2, .ref m3, .ref m4, .int (iI (ax)), .ref l1, .ref l2, .int (iI (rm)), .long (hh)])), (s1, zI G 48 (S))]) 2 rfl (fun j hj0 hj1 => by first | (rw [uZ_at, gpA_bg (prS_t.mpr ⟨by assumption, by assumption⟩)]; done) | (rw [gpA_f (fun w => absurd (prS_t.mp w).1 (by assumption))]; done) | (rw [gpA_f (fun w => absurd (prS_t.mp w).2 (by assumption))]; done) | (rw [gpA_f (fun w => absurd (prS_in w) (by omega))]; done)) rfl ?_
          refine z_aload_n (pc := 98) hX 2 rfl rfl dX6_lays_98 ?_
          refine z_get (pc := 99) hX (T := TX6) (C := RX6) (N := 17) (i := 31) (ref := "SignLettersModel") (name := "areas") (desc := "[I") hX6_lays_X6 4 rfl rfl 11 (by decide) kX6_lays_f31 ⟨rfl, rfl, rfl⟩ (v := .ref m4) rfl dX6_lays_99 ?_
          refine z_iload_n (pc := 102) hX 4 rfl rfl dX6_lays_102 ?_
          refine z_iload (pc := 103) hX 0 rfl dX6_lays_103 ?_
          refine z_if_eq (pc := 105) (tgt := 141) hX (by decide) (by omega) dX6_lays_105 (fun c_6 => ?_) (fun c_6 => absurd c_6 (by first | omega | (clear ex hX ih_4; grind [uZ])))
          refine z_iconst (pc := 141) hX dX6_lays_141 ?_
          refine z_iast (pc := 142) hX (N := 20) (F := A1) (WS' := [(m1, zI G 20 (uZ B1 i (bgA S (sF S) (sK S) (S 7) (i)))), (m2, zI G 20 (N1)), (m3, zI G 20 (uZ G1 i (gpA S (sF S) (sK S) (S 7) (i)))), (m4, zI G 20 (uZ A1 i (-1))), (m, .inr (6, [.int (iI (th)), .ref s1, .ref s2, .int (iI (sm)), .ref s3, .int (iI (bI (hs = true))), .ref s4, .int (iI (len)), .ref m1, .ref m2, .ref m3, .ref m4, .int (iI (ax)), .ref l1, .ref l2, .int (iI (rm)), .long (hh)])), (s1, zI G 48 (S))]) 3 rfl (by omega) (by omega) rfl dX6_lays_142 ?_
          refine z_arrX (N := 20) (F := uZ A1 i (-1)) (F1 := uZ A1 i (arA S (sF S) (sK S) (S 7) (i))) (WS1 := [(m1, zI G 20 (uZ B1 i (bgA S (sF S) (sK S) (S 7) (i)))), (m2, zI G 20 (N1)), (m3, zI G 20 (uZ G1 i (gpA S (sF S) (sK S) (S 7) (i)))), (m4, zI G 20 (uZ A1 i (arA S (sF S) (sK S) (S 7) (i)))), (m, .inr (6, [.int (iI (th)), .ref s1, .ref s2, .int (iI (sm)), .ref s3, .int (iI (bI (hs = true))), .ref s4, .int (iI (len)), .ref m1, .ref m2, .ref m3, .ref m4, .int (iI (ax)), .ref l1, .ref l2, .int (iI (rm)), .long (hh)])), (s1, zI G 48 (S))]) 3 rfl (fun j hj0 hj1 => by first | (rw [inZ_s hpr, arA_t hpr, uZ_at, gpA_t hpr]; rfl) | (rw [arA_f (fun w => absurd (prS_t.mp w).1 (by assumption))]; done) | (rw [arA_f (fun w => absurd (prS_t.mp w).2 (by assumption))]; done) | (rw [arA_f (fun w => absurd (prS_in w) (by omega))]; done)) rfl ?_
          refine z_aload_n (pc := 143) hX 2 rfl rfl dX6_lays_143 ?_
          refine z_get (pc := 144) hX (T := TX6) (C := RX6) (N := 17) (i := 22) (ref := "SignLettersModel") (name := "begins") (desc := "[I") hX6_lays_X6 4 rfl rfl 8 (by decide) kX6_lays_f22 ⟨rfl, rfl, rfl⟩ (v := .ref m1) rfl dX6_lays_144 ?_
          refine z_iload_n (pc := 147) hX 4 rfl rfl dX6_lays_147 ?_
          refine z_iald (pc := 148) hX (N := 20) (F := uZ B1 i (bgA S (sF S) (sK S) (S 7) (i))) 0 rfl (by omega) (by omega) dX6_lays_148 ?_
          refine z_iload_n (pc := 149) hX 1 rfl rfl dX6_lays_149 ?_
          refine z_bif_eq (pc := 150) (tgt := 168) hX (by decide) dX6_lays_150 (fun c_7 => ?_) (fun c_7 => by first | exact absurd c_7 c_3 | exact absurd c_3 c_7)
          refine z_aload_n (pc := 168) hX 2 rfl rfl dX6_lays_168 ?_
          refine z_get (pc := 169) hX (T := TX6) (C := RX6) (N := 17) (i := 7) (ref := "SignLettersModel") (name := "s") (desc := "[I") hX6_lays_X6 4 rfl rfl 1 (by decide) kX6_lays_f7 ⟨rfl, rfl, rfl⟩ (v := .ref s1) rfl dX6_lays_169 ?_
          refine z_iconst (pc := 172) hX dX6_lays_172 ?_
          refine z_iald (pc := 173) hX (N := 48) (F := S) 5 rfl (by omega) (by omega) dX6_lays_173 ?_
          refine z_iadd (pc := 174) hX dX6_lays_174 ?_
          refine z_istore_n (pc := 175) hX (loc' := [(1, .int (iI (((uZ B1 i (bgA S (sF S) (sK S) (S 7) (i))) i) + (S 2)))), (4, .int (iI (0))), (3, .int (iI (bI (letA (sF S) (S 7) i ≠ -1)))), (0, .ref m), (2, .int (iI (i)))]) rfl (by decide) rfl dX6_lays_175 ?_
          refine z_aload_n (pc := 176) hX 3 rfl rfl dX6_lays_176 ?_
          refine z_get (pc := 177) hX (T := TX6) (C := RX6) (N := 17) (i := 25) (ref := "SignLettersModel") (name := "ends") (desc := "[I") hX6_lays_X6 4 rfl rfl 9 (by decide) kX6_lays_f25 ⟨rfl, rfl, rfl⟩ (v := .ref m2) rfl dX6_lays_177 ?_
          refine z_iload_n (pc := 180) hX 4 rfl rfl dX6_lays_180 ?_
          refine z_iload_n (pc := 181) hX 0 rfl rfl dX6_lays_181 ?_
          refine z_iast (pc := 182) hX (N := 20) (F := N1) (WS' := [(m1, zI G 20 (uZ B1 i (bgA S (sF S) (sK S) (S 7) (i)))), (m2, zI G 20 (uZ N1 i (((uZ B1 i (bgA S (sF S) (sK S) (S 7) (i))) i) + (S 2)))), (m3, zI G 20 (uZ G1 i (gpA S (sF S) (sK S) (S 7) (i)))), (m4, zI G 20 (uZ A1 i (arA S (sF S) (sK S) (S 7) (i)))), (m, .inr (6, [.int (iI (th)), .ref s1, .ref s2, .int (iI (sm)), .ref s3, .int (iI (bI (hs = true))), .ref s4, .int (iI (len)), .ref m1, .ref m2, .ref m3, .ref m4, .int (iI (ax)), .ref l1, .ref l2, .int (iI (rm)), .long (hh)])), (s1, zI G 48 (S))]) 1 rfl (by omega) (by omega) rfl dX6_lays_182 ?_
          refine z_iinc (pc := 183) hX (loc' := [(2, .int (iI (i + 1))), (1, .int (iI (((uZ B1 i (bgA S (sF S) (sK S) (S 7) (i))) i) + (S 2)))), (4, .int (iI (0))), (3, .int (iI (bI (letA (sF S) (S 7) i ≠ -1)))), (0, .ref m)]) 4 rfl (by decide) rfl dX6_lays_183 ?_
          refine z_goto (pc := 186) (tgt := 4) hX (by decide) dX6_lays_186 ?_
          refine (congrArg (fun z_ : Int => Z G X 5 (0) (0) [(m1, zI G 20 (uZ B1 i (bgA S (sF S) (sK S) (S 7) (i)))), (m2, zI G 20 (uZ N1 i (((uZ B1 i (bgA S (sF S) (sK S) (S 7) (i))) i) + (S 2)))), (m3, zI G 20 (uZ G1 i (gpA S (sF S) (sK S) (S 7) (i)))), (m4, zI G 20 (uZ A1 i (arA S (sF S) (sK S) (S 7) (i)))), (m, .inr (6, [.int (iI (th)), .ref s1, .ref s2, .int (iI (sm)), .ref s3, .int (iI (bI (hs = true))), .ref s4, .int (iI (len)), .ref m1, .ref m2, .ref m3, .ref m4, .int (iI (ax)), .ref l1, .ref l2, .int (iI (rm)), .long (hh)])), (s1, zI G 48 (S))] 4 [(2, .int (iI (i + 1))), (1, .int (iI (z_))), (4, .int (iI (0))), (3, .int (iI (bI (letA (sF S) (S 7) i ≠ -1)))), (0, .ref m)] []) (show (((uZ B1 i (bgA S (sF S) (sK S) (S 7) (i))) i) + (S 2) : Int) = enA S (sF S) (sK S) (S 7) ((i + 1)) from by first | rfl | (rw [enA_s _ _ _ _ h0, uZ_at]; unfold bgA wdP; first | (rw [if_pos (show letA (sF S) (S 7) i = -1 by omega)]; done) | (rw [if_neg (show ¬ letA (sF S) (S 7) i = -1 by omega), hfp]; done)))).mpr ?_
          refine z_at [4, 1, 0] [4, 5, 0, 1, 2, 3] (loc' := [(0, .ref m), (1, .int (iI (enA S (sF S) (sK S) (S 7) ((i + 1))))), (2, .int (iI ((i + 1))))]) (WS' := [(m, .inr (6, [.int (iI (th)), .ref s1, .ref s2, .int (iI (sm)), .ref s3, .int (iI (bI (hs = true))), .ref s4, .int (iI (len)), .ref m1, .ref m2, .ref m3, .ref m4, .int (iI (ax)), .ref l1, .ref l2, .int (iI (rm)), .long (hh)])), (s1, zI G 48 (S)), (m1, zI G 20 ((uZ B1 i (bgA S (sF S) (sK S) (S 7) (i))))), (m2, zI G 20 ((uZ N1 i (((uZ B1 i (bgA S (sF S) (sK S) (S 7) (i))) i) + (S 2))))), (m3, zI G 20 ((uZ G1 i (gpA S (sF S) (sK S) (S 7) (i))))), (m4, zI G 20 ((uZ A1 i (arA S (sF S) (sK S) (S 7) (i)))))]) rfl (by decide) rfl ?_
          exact ih_4 (i + 1) (uZ B1 i (bgA S (sF S) (sK S) (S 7) (i))) (uZ N1 i (((uZ B1 i (bgA S (sF S) (sK S) (S 7) (i))) i) + (S 2))) (uZ G1 i (gpA S (sF S) (sK S) (S 7) (i))) (uZ A1 i (arA S (sF S) (sK S) (S 7) (i))) (by first | assumption | omega | (clear ex hX ih_4; grind [uZ])) (by first | assumption | omega | (clear ex hX ih_4; grind [uZ])) (by exact uZ_step hB rfl) (by refine uZ_step hN ?_; rw [enA_s _ _ _ _ h0, uZ_at]; unfold bgA wdP; first | (rw [if_pos (show letA (sF S) (S 7) i = -1 by omega)]; done) | (rw [if_neg (show ¬ letA (sF S) (S 7) i = -1 by omega), hfp]; done)) (by exact uZ_step hG rfl) (by exact uZ_step hA rfl) (by omega)
        · refine z_aload_n (pc := 30) hX 1 rfl rfl dX6_lays_30 ?_
          refine z_iload_n (pc := 31) hX 3 rfl rfl dX6_lays_31 ?_
          refine z_aload_n (pc := 32) hX 1 rfl rfl dX6_lays_32 ?_
          refine z_get (pc := 33) hX (T := TX6) (C := RX6) (N := 17) (i := 7) (ref := "SignLettersModel") (name := "s") (desc := "[I") hX6_lays_X6 4 rfl rfl 1 (by decide) kX6_lays_f7 ⟨rfl, rfl, rfl⟩ (v := .ref s1) rfl dX6_lays_33 ?_
          refine z_bipush (pc := 36) hX (z := 28) (by decide +kernel) dX6_lays_36 ?_
          refine z_iload_n (pc := 38) hX 3 rfl rfl dX6_lays_38 ?_
          refine z_iadd (pc := 39) hX dX6_lays_39 ?_
          refine z_iald (pc := 40) hX (N := 48) (F := S) 5 rfl (by omega) (by omega) dX6_lays_40 ?_
          refine z_iload_n (pc := 41) hX 2 rfl rfl dX6_lays_41 ?_
          refine z_callV_i (pc := 42) (As := [.int (iI (i)), .int (iI (S (28 + i))), .int (iI (enA S (sF S) (sK S) (S 7) (i)))]) (rest := [.int (iI (i)), .ref m1]) (wc := [(m, .inr (6, [.int (iI (th)), .ref s1, .ref s2, .int (iI (sm)), .ref s3, .int (iI (bI (hs = true))), .ref s4, .int (iI (len)), .ref m1, .ref m2, .ref m3, .ref m4, .int (iI (ax)), .ref l1, .ref l2, .int (iI (rm)), .long (hh)])), (s1, zI G 48 (S))]) (wr := [(m1, zI G 20 (B1)), (m2, zI G 20 (N1)), (m3, zI G 20 (G1)), (m4, zI G 20 (A1))]) hX (mX6_beginning G (m) (s1) (s2) (s3) (s4) (m1) (m2) (m3) (m4) (l1) (l2) (th) (sm) (len) (ax) (rm) (hs) (hh) (S) (i) (S (28 + i)) (enA S (sF S) (sK S) (S 7) (i)) (by first | assumption | omega | (clear ex hX ih_4; grind [uZ])) (by first | assumption | omega | (clear ex hX ih_4; grind [uZ])) (by first | assumption | omega | (clear ex hX ih_4; grind [uZ])) (by first | assumption | omega | (clear ex hX ih_4; grind [uZ])) (by first | assumption | omega | (clear ex hX ih_4; grind [uZ])) (by first | assumption | omega | (clear ex hX ih_4; grind [uZ])) (by first | assumption | omega | (clear ex hX ih_4; grind [uZ])) (by first | assumption | omega | (clear ex hX ih_4; grind [uZ]))) rfl rfl rfl (C := RX6) gX6_lays_X6_beginning ⟨rfl, hdX6_beginning⟩ (T := TX6) (N := 17) 0 rfl rfl ⟨Nat.le_of_ble_eq_true rfl, Nat.le_of_ble_eq_true rfl⟩ [4, 5] [0, 1, 2, 3] rfl rfl (by decide) (by decide) (by decide) rfl (Nat.le_of_ble_eq_true rfl) ⟨Nat.le_of_ble_eq_true rfl, Nat.le_of_ble_eq_true rfl⟩ dX6_lays_42 (fun r_8 u_8 h_8 => ?_)
          subst h_8
          show Z G X 5 (0) (0) [(m1, zI G 20 (B1)), (m2, zI G 20 (N1)), (m3, zI G 20 (G1)), (m4, zI G 20 (A1)), (m, .inr (6, [.int (iI (th)), .ref s1, .ref s2, .int (iI (sm)), .ref s3, .int (iI (bI (hs = true))), .ref s4, .int (iI (len)), .ref m1, .ref m2, .ref m3, .ref m4, .int (iI (ax)), .ref l1, .ref l2, .int (iI (rm)), .long (hh)])), (s1, zI G 48 (S))] 45 [(3, .int (iI (bI (letA (sF S) (S 7) i ≠ -1)))), (0, .ref m), (1, .int (iI (enA S (sF S) (sK S) (S 7) (i)))), (2, .int (iI (i)))] [.int (iI (bgM S (sF S) (S 7) i (S (28 + i)) (enA S (sF S) (sK S) (S 7) (i)))), .int (iI (i)), .ref m1]
          refine z_goto (pc := 45) (tgt := 49) hX (by decide) dX6_lays_45 ?_
          refine z_iast (pc := 49) hX (N := 20) (F := B1) (WS' := [(m1, zI G 20 (uZ B1 i (bgM S (sF S) (S 7) i (S (28 + i)) (enA S (sF S) (sK S) (S 7) (i))))), (m2, zI G 20 (N1)), (m3, zI G 20 (G1)), (m4, zI G 20 (A1)), (m, .inr (6, [.int (iI (th)), .ref s1, .ref s2, .int (iI (sm)), .ref s3, .int (iI (bI (hs = true))), .ref s4, .int (iI (len)), .ref m1, .ref m2, .ref m3, .ref m4, .int (iI (ax)), .ref l1, .ref l2, .int (iI (rm)), .long (hh)])), (s1, zI G 48 (S))]) 0 rfl (by omega) (by omega) rfl dX6_lays_49 ?_
          refine z_arrX (N := 20) (F := uZ B1 i (bgM S (sF S) (S 7) i (S (28 + i)) (enA S (sF S) (sK S) (S 7) (i)))) (F1 := uZ B1 i (bgA S (sF S) (sK S) (S 7) (i))) (WS1 := [(m1, zI G 20 (uZ B1 i (bgA S (sF S) (sK S) (S 7) (i)))), (m2, zI G 20 (N1)), (m3, zI G 20 (G1)), (m4, zI G 20 (A1)), (m, .inr (6, [.int (iI (th)), .ref s1, .ref s2, .int (iI (sm)), .ref s3, .int (iI (bI (hs = true))), .ref s4, .int (iI (len)), .ref m1, .ref m2, .ref m3, .ref m4, .int (iI (ax)), .ref l1, .ref l2, .int (iI (rm)), .long (hh)])), (s1, zI G 48 (S))]) 0 rfl (fun j hj0 hj1 => by first | exact congrArg (fun z_ : Int => uZ B1 i z_ j) (bgM_eq (K := sK S) (by omega) (by assumption)) | exact congrArg (fun z_ : Int => uZ B1 i z_ j) (bgA_no (by assumption))) rfl ?_
          refine z_iload_n (pc := 50) hX 0 rfl rfl dX6_lays_50 ?_
          refine z_bif_eq (pc := 51) (tgt := 72) hX (by decide) dX6_lays_51 (fun c_9 => by first | exact absurd c_9 c_3 | exact absurd c_3 c_9) (fun c_9 => ?_)
          refine z_iload_n (pc := 54) hX 3 rfl rfl dX6_lays_54 ?_
          refine z_if_le (pc := 55) (tgt := 72) hX (by decide) (by omega) dX6_lays_55 (fun c_10 => ?_) (fun c_10 => ?_)
          · refine z_iconst (pc := 72) hX dX6_lays_72 ?_
            refine z_istore (pc := 73) hX (loc' := [(4, .int (iI (0))), (3, .int (iI (bI (letA (sF S) (S 7) i ≠ -1)))), (0, .ref m), (1, .int (iI (enA S (sF S) (sK S) (S 7) (i)))), (2, .int (iI (i)))]) (by decide) rfl dX6_lays_73 ?_
            refine z_aload_n (pc := 75) hX 2 rfl rfl dX6_lays_75 ?_
            refine z_get (pc := 76) hX (T := TX6) (C := RX6) (N := 17) (i := 28) (ref := "SignLettersModel") (name := "gaps") (desc := "[I") hX6_lays_X6 4 rfl rfl 10 (by decide) kX6_lays_f28 ⟨rfl, rfl, rfl⟩ (v := .ref m3) rfl dX6_lays_76 ?_
            refine z_iload_n (pc := 79) hX 4 rfl rfl dX6_lays_79 ?_
            refine z_iload (pc := 80) hX 0 rfl dX6_lays_80 ?_
            refine z_if_eq (pc := 82) (tgt := 96) hX (by decide) (by omega) dX6_lays_82 (fun c_11 => ?_) (fun c_11 => absurd c_11 (by first | omega | (clear ex hX ih_4; grind [uZ])))
            refine z_iconst (pc := 96) hX dX6_lays_96 ?_
            refine z_iast (pc := 97) hX (N := 20) (F := G1) (WS' := [(m1, zI G 20 (uZ B1 i (bgA S (sF S) (sK S) (S 7) (i)))), (m2, zI G 20 (N1)), (m3, zI G 20 (uZ G1 i (-1))), (m4, zI G 20 (A1)), (m, .inr (6, [.int (iI (th)), .ref s1, .ref s2, .int (iI (sm)), .ref s3, .int (iI (bI (hs = true))), .ref s4, .int (iI (len)), .ref m1, .ref m2, .ref m3, .ref m4, .int (iI (ax)), .ref l1, .ref l2, .int (iI (rm)), .long (hh)])), (s1, zI G 48 (S))]) 2 rfl (by omega) (by omega) rfl dX6_lays_97 ?_
            refine z_arrX (N := 20) (F := uZ G1 i (-1)) (F1 := uZ G1 i (gpA S (sF S) (sK S) (S 7) (i))) (WS1 := [(m1, zI G 20 (uZ B1 i (bgA S (sF S) (sK S) (S 7) (i)))), (m2, zI G 20 (N1)), (m3, zI G 20 (uZ G1 i (gpA S (sF S) (sK S) (S 7) (i)))), (m4, zI G 20 (A1)), (m, .inr (6, [.int (iI (th)), .ref s1, .ref s2, .int (iI (sm)), .ref s3, .int (iI (bI (hs = true))), .ref s4, .int (iI (len)), .ref m1, .ref m2, .ref m3, .ref m4, .int (iI (ax)), .ref l1, .ref l2, .int (iI (rm)), .long (hh)])), (s1, zI G 48 (S))]) 2 rfl (fun j hj0 hj1 => by first | (rw [uZ_at, gpA_bg (prS_t.mpr ⟨by assumption, by assumption⟩)]; done) | (rw [gpA_f (fun w => absurd (prS_t.mp w).1 (by assumption))]; done) | (rw [gpA_f (fun w => absurd (prS_t.mp w).2 (by assumption))]; done) | (rw [gpA_f (fun w => absurd (prS_in w) (by omega))]; done)) rfl ?_
            refine z_aload_n (pc := 98) hX 2 rfl rfl dX6_lays_98 ?_
            refine z_get (pc := 99) hX (T := TX6) (C := RX6) (N := 17) (i := 31) (ref := "SignLettersModel") (name := "areas") (desc := "[I") hX6_lays_X6 4 rfl rfl 11 (by decide) kX6_lays_f31 ⟨rfl, rfl, rfl⟩ (v := .ref m4) rfl dX6_lays_99 ?_
            refine z_iload_n (pc := 102) hX 4 rfl rfl dX6_lays_102 ?_
            refine z_iload (pc := 103) hX 0 rfl dX6_lays_103 ?_
            refine z_if_eq (pc := 105) (tgt := 141) hX (by decide) (by omega) dX6_lays_105 (fun c_12 => ?_) (fun c_12 => absurd c_12 (by first | omega | (clear ex hX ih_4; grind [uZ])))
            refine z_iconst (pc := 141) hX dX6_lays_141 ?_
            refine z_iast (pc := 142) hX (N := 20) (F := A1) (WS' := [(m1, zI G 20 (uZ B1 i (bgA S (sF S) (sK S) (S 7) (i)))), (m2, zI G 20 (N1)), (m3, zI G 20 (uZ G1 i (gpA S (sF S) (sK S) (S 7) (i)))), (m4, zI G 20 (uZ A1 i (-1))), (m, .inr (6, [.int (iI (th)), .ref s1, .ref s2, .int (iI (sm)), .ref s3, .int (iI (bI (hs = true))), .ref s4, .int (iI (len)), .ref m1, .ref m2, .ref m3, .ref m4, .int (iI (ax)), .ref l1, .ref l2, .int (iI (rm)), .long (hh)])), (s1, zI G 48 (S))]) 3 rfl (by omega) (by omega) rfl dX6_lays_142 ?_
            refine z_arrX (N := 20) (F := uZ A1 i (-1)) (F1 := uZ A1 i (arA S (sF S) (sK S) (S 7) (i))) (WS1 := [(m1, zI G 20 (uZ B1 i (bgA S (sF S) (sK S) (S 7) (i)))), (m2, zI G 20 (N1)), (m3, zI G 20 (uZ G1 i (gpA S (sF S) (sK S) (S 7) (i)))), (m4, zI G 20 (uZ A1 i (arA S (sF S) (sK S) (S 7) (i)))), (m, .inr (6, [.int (iI (th)), .ref s1, .ref s2, .int (iI (sm)), .ref s3, .int (iI (bI (hs = true))), .ref s4, .int (iI (len)), .ref m1, .ref m2, .ref m3, .ref m4, .int (iI (ax)), .ref l1, .ref l2, .int (iI (rm)), .long (hh)])), (s1, zI G 48 (S))]) 3 rfl (fun j hj0 hj1 => by first | (rw [inZ_s hpr, arA_t hpr, uZ_at, gpA_t hpr]; rfl) | (rw [arA_f (fun w => absurd (prS_t.mp w).1 (by assumption))]; done) | (rw [arA_f (fun w => absurd (prS_t.mp w).2 (by assumption))]; done) | (rw [arA_f (fun w => absurd (prS_in w) (by omega))]; done)) rfl ?_
            refine z_aload_n (pc := 143) hX 2 rfl rfl dX6_lays_143 ?_
            refine z_get (pc := 144) hX (T := TX6) (C := RX6) (N := 17) (i := 22) (ref := "SignLettersModel") (name := "begins") (desc := "[I") hX6_lays_X6 4 rfl rfl 8 (by decide) kX6_lays_f22 ⟨rfl, rfl, rfl⟩ (v := .ref m1) rfl dX6_lays_144 ?_
            refine z_iload_n (pc := 147) hX 4 rfl rfl dX6_lays_147 ?_
            refine z_iald (pc := 148) hX (N := 20) (F := uZ B1 i (bgA S (sF S) (sK S) (S 7) (i))) 0 rfl (by omega) (by omega) dX6_lays_148 ?_
            refine z_iload_n (pc := 149) hX 1 rfl rfl dX6_lays_149 ?_
            refine z_bif_eq (pc := 150) (tgt := 168) hX (by decide) dX6_lays_150 (fun c_13 => by first | exact absurd c_13 c_3 | exact absurd c_3 c_13) (fun c_13 => ?_)
            refine z_aload_n (pc := 153) hX 2 rfl rfl dX6_lays_153 ?_
            refine z_get (pc := 154) hX (T := TX6) (C := RX6) (N := 17) (i := 7) (ref := "SignLettersModel") (name := "s") (desc := "[I") hX6_lays_X6 4 rfl rfl 1 (by decide) kX6_lays_f7 ⟨rfl, rfl, rfl⟩ (v := .ref s1) rfl dX6_lays_154 ?_
            refine z_bipush (pc := 157) hX (z := 8) (by decide +kernel) dX6_lays_157 ?_
            refine z_iload_n (pc := 159) hX 4 rfl rfl dX6_lays_159 ?_
            refine z_iadd (pc := 160) hX dX6_lays_160 ?_
            refine z_iald (pc := 161) hX (N := 48) (F := S) 5 rfl (by omega) (by omega) dX6_lays_161 ?_
            refine z_callS_i (pc := 162) (As := [.int (iI (S (8 + i)))]) (rest := [.int (iI ((uZ B1 i (bgA S (sF S) (sK S) (S 7) (i))) i))]) (wc := []) (wr := [(m1, zI G 20 (uZ B1 i (bgA S (sF S) (sK S) (S 7) (i)))), (m2, zI G 20 (N1)), (m3, zI G 20 (uZ G1 i (gpA S (sF S) (sK S) (S 7) (i)))), (m4, zI G 20 (uZ A1 i (arA S (sF S) (sK S) (S 7) (i)))), (m, .inr (6, [.int (iI (th)), .ref s1, .ref s2, .int (iI (sm)), .ref s3, .int (iI (bI (hs = true))), .ref s4, .int (iI (len)), .ref m1, .ref m2, .ref m3, .ref m4, .int (iI (ax)), .ref l1, .ref l2, .int (iI (rm)), .long (hh)])), (s1, zI G 48 (S))]) hX (mX6_widthOf G (S (8 + i)) (by first | assumption | omega | (clear ex hX ih_4; grind [uZ]))) rfl rfl rfl gX6_lays_X6_widthOf hdX6_widthOf ⟨Nat.le_of_ble_eq_true rfl, Nat.le_of_ble_eq_true rfl⟩ [] [0, 1, 2, 3, 4, 5] rfl rfl (by decide) (by decide) (by decide) rfl (Nat.le_of_ble_eq_true rfl) ⟨Nat.le_of_ble_eq_true rfl, Nat.le_of_ble_eq_true rfl⟩ dX6_lays_162 (fun r_14 u_14 h_14 => ?_)
            subst h_14
            show Z G X 5 (0) (0) [(m1, zI G 20 (uZ B1 i (bgA S (sF S) (sK S) (S 7) (i)))), (m2, zI G 20 (N1)), (m3, zI G 20 (uZ G1 i (gpA S (sF S) (sK S) (S 7) (i)))), (m4, zI G 20 (uZ A1 i (arA S (sF S) (sK S) (S 7) (i)))), (m, .inr (6, [.int (iI (th)), .ref s1, .ref s2, .int (iI (sm)), .ref s3, .int (iI (bI (hs = true))), .ref s4, .int (iI (len)), .ref m1, .ref m2, .ref m3, .ref m4, .int (iI (ax)), .ref l1, .ref l2, .int (iI (rm)), .long (hh)])), (s1, zI G 48 (S))] 165 [(4, .int (iI (0))), (3, .int (iI (bI (letA (sF S) (S 7) i ≠ -1)))), (0, .ref m), (1, .int (iI (enA S (sF S) (sK S) (S 7) (i)))), (2, .int (iI (i)))] [.int (iI (wdI (S (8 + i)))), .int (iI ((uZ B1 i (bgA S (sF S) (sK S) (S 7) (i))) i))]
            refine z_goto (pc := 165) (tgt := 174) hX (by decide) dX6_lays_165 ?_
            refine z_iadd (pc := 174) hX dX6_lays_174 ?_
            refine z_istore_n (pc := 175) hX (loc' := [(1, .int (iI (((uZ B1 i (bgA S (sF S) (sK S) (S 7) (i))) i) + (wdI (S (8 + i)))))), (4, .int (iI (0))), (3, .int (iI (bI (letA (sF S) (S 7) i ≠ -1)))), (0, .ref m), (2, .int (iI (i)))]) rfl (by decide) rfl dX6_lays_175 ?_
            refine z_aload_n (pc := 176) hX 3 rfl rfl dX6_lays_176 ?_
            refine z_get (pc := 177) hX (T := TX6) (C := RX6) (N := 17) (i := 25) (ref := "SignLettersModel") (name := "ends") (desc := "[I") hX6_lays_X6 4 rfl rfl 9 (by decide) kX6_lays_f25 ⟨rfl, rfl, rfl⟩ (v := .ref m2) rfl dX6_lays_177 ?_
            refine z_iload_n (pc := 180) hX 4 rfl rfl dX6_lays_180 ?_
            refine z_iload_n (pc := 181) hX 0 rfl rfl dX6_lays_181 ?_
            refine z_iast (pc := 182) hX (N := 20) (F := N1) (WS' := [(m1, zI G 20 (uZ B1 i (bgA S (sF S) (sK S) (S 7) (i)))), (m2, zI G 20 (uZ N1 i (((uZ B1 i (bgA S (sF S) (sK S) (S 7) (i))) i) + (wdI (S (8 + i)))))), (m3, zI G 20 (uZ G1 i (gpA S (sF S) (sK S) (S 7) (i)))), (m4, zI G 20 (uZ A1 i (arA S (sF S) (sK S) (S 7) (i)))), (m, .inr (6, [.int (iI (th)), .ref s1, .ref s2, .int (iI (sm)), .ref s3, .int (iI (bI (hs = true))), .ref s4, .int (iI (len)), .ref m1, .ref m2, .ref m3, .ref m4, .int (iI (ax)), .ref l1, .ref l2, .int (iI (rm)), .long (hh)])), (s1, zI G 48 (S))]) 1 rfl (by omega) (by omega) rfl dX6_lays_182 ?_
            refine z_iinc (pc := 183) hX (loc' := [(2, .int (iI (i + 1))), (1, .int (iI (((uZ B1 i (bgA S (sF S) (sK S) (S 7) (i))) i) + (wdI (S (8 + i)))))), (4, .int (iI (0))), (3, .int (iI (bI (letA (sF S) (S 7) i ≠ -1)))), (0, .ref m)]) 4 rfl (by decide) rfl dX6_lays_183 ?_
            refine z_goto (pc := 186) (tgt := 4) hX (by decide) dX6_lays_186 ?_
            refine (congrArg (fun z_ : Int => Z G X 5 (0) (0) [(m1, zI G 20 (uZ B1 i (bgA S (sF S) (sK S) (S 7) (i)))), (m2, zI G 20 (uZ N1 i (((uZ B1 i (bgA S (sF S) (sK S) (S 7) (i))) i) + (wdI (S (8 + i)))))), (m3, zI G 20 (uZ G1 i (gpA S (sF S) (sK S) (S 7) (i)))), (m4, zI G 20 (uZ A1 i (arA S (sF S) (sK S) (S 7) (i)))), (m, .inr (6, [.int (iI (th)), .ref s1, .ref s2, .int (iI (sm)), .ref s3, .int (iI (bI (hs = true))), .ref s4, .int (iI (len)), .ref m1, .ref m2, .ref m3, .ref m4, .int (iI (ax)), .ref l1, .ref l2, .int (iI (rm)), .long (hh)])), (s1, zI G 48 (S))] 4 [(2, .int (iI (i + 1))), (1, .int (iI (z_))), (4, .int (iI (0))), (3, .int (iI (bI (letA (sF S) (S 7) i ≠ -1)))), (0, .ref m)] []) (show (((uZ B1 i (bgA S (sF S) (sK S) (S 7) (i))) i) + (wdI (S (8 + i))) : Int) = enA S (sF S) (sK S) (S 7) ((i + 1)) from by first | rfl | (rw [enA_s _ _ _ _ h0, uZ_at]; unfold bgA wdP; first | (rw [if_pos (show letA (sF S) (S 7) i = -1 by omega)]; done) | (rw [if_neg (show ¬ letA (sF S) (S 7) i = -1 by omega), hfp]; done)))).mpr ?_
            refine z_at [4, 1, 0] [4, 5, 0, 1, 2, 3] (loc' := [(0, .ref m), (1, .int (iI (enA S (sF S) (sK S) (S 7) ((i + 1))))), (2, .int (iI ((i + 1))))]) (WS' := [(m, .inr (6, [.int (iI (th)), .ref s1, .ref s2, .int (iI (sm)), .ref s3, .int (iI (bI (hs = true))), .ref s4, .int (iI (len)), .ref m1, .ref m2, .ref m3, .ref m4, .int (iI (ax)), .ref l1, .ref l2, .int (iI (rm)), .long (hh)])), (s1, zI G 48 (S)), (m1, zI G 20 ((uZ B1 i (bgA S (sF S) (sK S) (S 7) (i))))), (m2, zI G 20 ((uZ N1 i (((uZ B1 i (bgA S (sF S) (sK S) (S 7) (i))) i) + (wdI (S (8 + i))))))), (m3, zI G 20 ((uZ G1 i (gpA S (sF S) (sK S) (S 7) (i))))), (m4, zI G 20 ((uZ A1 i (arA S (sF S) (sK S) (S 7) (i)))))]) rfl (by decide) rfl ?_
            exact ih_4 (i + 1) (uZ B1 i (bgA S (sF S) (sK S) (S 7) (i))) (uZ N1 i (((uZ B1 i (bgA S (sF S) (sK S) (S 7) (i))) i) + (wdI (S (8 + i))))) (uZ G1 i (gpA S (sF S) (sK S) (S 7) (i))) (uZ A1 i (arA S (sF S) (sK S) (S 7) (i))) (by first | assumption | omega | (clear ex hX ih_4; grind [uZ])) (by first | assumption | omega | (clear ex hX ih_4; grind [uZ])) (by exact uZ_step hB rfl) (by refine uZ_step hN ?_; rw [enA_s _ _ _ _ h0, uZ_at]; unfold bgA wdP; first | (rw [if_pos (show letA (sF S) (S 7) i = -1 by omega)]; done) | (rw [if_neg (show ¬ letA (sF S) (S 7) i = -1 by omega), hfp]; done)) (by exact uZ_step hG rfl) (by exact uZ_step hA rfl) (by omega)
          · refine z_aload_n (pc := 58) hX 1 rfl rfl dX6_lays_58 ?_
            refine z_iload_n (pc := 59) hX 3 rfl rfl dX6_lays_59 ?_
            refine z_iconst (pc := 60) hX dX6_lays_60 ?_
            refine z_isub (pc := 61) hX dX6_lays_61 ?_
            refine z_callV_i (pc := 62) (As := [.int (iI (i - 1))]) (rest := []) (wc := [(m, .inr (6, [.int (iI (th)), .ref s1, .ref s2, .int (iI (sm)), .ref s3, .int (iI (bI (hs = true))), .ref s4, .int (iI (len)), .ref m1, .ref m2, .ref m3, .ref m4, .int (iI (ax)), .ref l1, .ref l2, .int (iI (rm)), .long (hh)])), (s1, zI G 48 (S))]) (wr := [(m1, zI G 20 (uZ B1 i (bgA S (sF S) (sK S) (S 7) (i)))), (m2, zI G 20 (N1)), (m3, zI G 20 (G1)), (m4, zI G 20 (A1))]) hX (mX6_isLetter G (m) (s1) (s2) (s3) (s4) (m1) (m2) (m3) (m4) (l1) (l2) (th) (sm) (len) (ax) (rm) (hs) (hh) (S) (i - 1) (by first | assumption | omega | (clear ex hX ih_4; grind [uZ])) (by first | assumption | omega | (clear ex hX ih_4; grind [uZ])) (by first | assumption | omega | (clear ex hX ih_4; grind [uZ]))) rfl rfl rfl (C := RX6) gX6_lays_X6_isLetter ⟨rfl, hdX6_isLetter⟩ (T := TX6) (N := 17) 0 rfl rfl ⟨Nat.le_of_ble_eq_true rfl, Nat.le_of_ble_eq_true rfl⟩ [4, 5] [0, 1, 2, 3] rfl rfl (by decide) (by decide) (by decide) rfl (Nat.le_of_ble_eq_true rfl) ⟨Nat.le_of_ble_eq_true rfl, Nat.le_of_ble_eq_true rfl⟩ dX6_lays_62 (fun r_15 u_15 h_15 => ?_)
            subst h_15
            show Z G X 5 (0) (0) [(m1, zI G 20 (uZ B1 i (bgA S (sF S) (sK S) (S 7) (i)))), (m2, zI G 20 (N1)), (m3, zI G 20 (G1)), (m4, zI G 20 (A1)), (m, .inr (6, [.int (iI (th)), .ref s1, .ref s2, .int (iI (sm)), .ref s3, .int (iI (bI (hs = true))), .ref s4, .int (iI (len)), .ref m1, .ref m2, .ref m3, .ref m4, .int (iI (ax)), .ref l1, .ref l2, .int (iI (rm)), .long (hh)])), (s1, zI G 48 (S))] 65 [(3, .int (iI (bI (letA (sF S) (S 7) i ≠ -1)))), (0, .ref m), (1, .int (iI (enA S (sF S) (sK S) (S 7) (i)))), (2, .int (iI (i)))] [.int (iI (bI (letA (sF S) (S 7) (i - 1) ≠ -1)))]
            refine z_bif_eq (pc := 65) (tgt := 72) hX (by decide) dX6_lays_65 (fun c_16 => ?_) (fun c_16 => ?_)
            · refine z_iconst (pc := 72) hX dX6_lays_72 ?_
              refine z_istore (pc := 73) hX (loc' := [(4, .int (iI (0))), (3, .int (iI (bI (letA (sF S) (S 7) i ≠ -1)))), (0, .ref m), (1, .int (iI (enA S (sF S) (sK S) (S 7) (i)))), (2, .int (iI (i)))]) (by decide) rfl dX6_lays_73 ?_
              refine z_aload_n (pc := 75) hX 2 rfl rfl dX6_lays_75 ?_
              refine z_get (pc := 76) hX (T := TX6) (C := RX6) (N := 17) (i := 28) (ref := "SignLettersModel") (name := "gaps") (desc := "[I") hX6_lays_X6 4 rfl rfl 10 (by decide) kX6_lays_f28 ⟨rfl, rfl, rfl⟩ (v := .ref m3) rfl dX6_lays_76 ?_
              refine z_iload_n (pc := 79) hX 4 rfl rfl dX6_lays_79 ?_
              refine z_iload (pc := 80) hX 0 rfl dX6_lays_80 ?_
              refine z_if_eq (pc := 82) (tgt := 96) hX (by decide) (by omega) dX6_lays_82 (fun c_17 => ?_) (fun c_17 => absurd c_17 (by first | omega | (clear ex hX ih_4; grind [uZ])))
              refine z_iconst (pc := 96) hX dX6_lays_96 ?_
              refine z_iast (pc := 97) hX (N := 20) (F := G1) (WS' := [(m1, zI G 20 (uZ B1 i (bgA S (sF S) (sK S) (S 7) (i)))), (m2, zI G 20 (N1)), (m3, zI G 20 (uZ G1 i (-1))), (m4, zI G 20 (A1)), (m, .inr (6, [.int (iI (th)), .ref s1, .ref s2, .int (iI (sm)), .ref s3, .int (iI (bI (hs = true))), .ref s4, .int (iI (len)), .ref m1, .ref m2, .ref m3, .ref m4, .int (iI (ax)), .ref l1, .ref l2, .int (iI (rm)), .long (hh)])), (s1, zI G 48 (S))]) 2 rfl (by omega) (by omega) rfl dX6_lays_97 ?_
              refine z_arrX (N := 20) (F := uZ G1 i (-1)) (F1 := uZ G1 i (gpA S (sF S) (sK S) (S 7) (i))) (WS1 := [(m1, zI G 20 (uZ B1 i (bgA S (sF S) (sK S) (S 7) (i)))), (m2, zI G 20 (N1)), (m3, zI G 20 (uZ G1 i (gpA S (sF S) (sK S) (S 7) (i)))), (m4, zI G 20 (A1)), (m, .inr (6, [.int (iI (th)), .ref s1, .ref s2, .int (iI (sm)), .ref s3, .int (iI (bI (hs = true))), .ref s4, .int (iI (len)), .ref m1, .ref m2, .ref m3, .ref m4, .int (iI (ax)), .ref l1, .ref l2, .int (iI (rm)), .long (hh)])), (s1, zI G 48 (S))]) 2 rfl (fun j hj0 hj1 => by first | (rw [uZ_at, gpA_bg (prS_t.mpr ⟨by assumption, by assumption⟩)]; done) | (rw [gpA_f (fun w => absurd (prS_t.mp w).1 (by assumption))]; done) | (rw [gpA_f (fun w => absurd (prS_t.mp w).2 (by assumption))]; done) | (rw [gpA_f (fun w => absurd (prS_in w) (by omega))]; done)) rfl ?_
              refine z_aload_n (pc := 98) hX 2 rfl rfl dX6_lays_98 ?_
              refine z_get (pc := 99) hX (T := TX6) (C := RX6) (N := 17) (i := 31) (ref := "SignLettersModel") (name := "areas") (desc := "[I") hX6_lays_X6 4 rfl rfl 11 (by decide) kX6_lays_f31 ⟨rfl, rfl, rfl⟩ (v := .ref m4) rfl dX6_lays_99 ?_
              refine z_iload_n (pc := 102) hX 4 rfl rfl dX6_lays_102 ?_
              refine z_iload (pc := 103) hX 0 rfl dX6_lays_103 ?_
              refine z_if_eq (pc := 105) (tgt := 141) hX (by decide) (by omega) dX6_lays_105 (fun c_18 => ?_) (fun c_18 => absurd c_18 (by first | omega | (clear ex hX ih_4; grind [uZ])))
              refine z_iconst (pc := 141) hX dX6_lays_141 ?_
              refine z_iast (pc := 142) hX (N := 20) (F := A1) (WS' := [(m1, zI G 20 (uZ B1 i (bgA S (sF S) (sK S) (S 7) (i)))), (m2, zI G 20 (N1)), (m3, zI G 20 (uZ G1 i (gpA S (sF S) (sK S) (S 7) (i)))), (m4, zI G 20 (uZ A1 i (-1))), (m, .inr (6, [.int (iI (th)), .ref s1, .ref s2, .int (iI (sm)), .ref s3, .int (iI (bI (hs = true))), .ref s4, .int (iI (len)), .ref m1, .ref m2, .ref m3, .ref m4, .int (iI (ax)), .ref l1, .ref l2, .int (iI (rm)), .long (hh)])), (s1, zI G 48 (S))]) 3 rfl (by omega) (by omega) rfl dX6_lays_142 ?_
              refine z_arrX (N := 20) (F := uZ A1 i (-1)) (F1 := uZ A1 i (arA S (sF S) (sK S) (S 7) (i))) (WS1 := [(m1, zI G 20 (uZ B1 i (bgA S (sF S) (sK S) (S 7) (i)))), (m2, zI G 20 (N1)), (m3, zI G 20 (uZ G1 i (gpA S (sF S) (sK S) (S 7) (i)))), (m4, zI G 20 (uZ A1 i (arA S (sF S) (sK S) (S 7) (i)))), (m, .inr (6, [.int (iI (th)), .ref s1, .ref s2, .int (iI (sm)), .ref s3, .int (iI (bI (hs = true))), .ref s4, .int (iI (len)), .ref m1, .ref m2, .ref m3, .ref m4, .int (iI (ax)), .ref l1, .ref l2, .int (iI (rm)), .long (hh)])), (s1, zI G 48 (S))]) 3 rfl (fun j hj0 hj1 => by first | (rw [inZ_s hpr, arA_t hpr, uZ_at, gpA_t hpr]; rfl) | (rw [arA_f (fun w => absurd (prS_t.mp w).1 (by assumption))]; done) | (rw [arA_f (fun w => absurd (prS_t.mp w).2 (by assumption))]; done) | (rw [arA_f (fun w => absurd (prS_in w) (by omega))]; done)) rfl ?_
              refine z_aload_n (pc := 143) hX 2 rfl rfl dX6_lays_143 ?_
              refine z_get (pc := 144) hX (T := TX6) (C := RX6) (N := 17) (i := 22) (ref := "SignLettersModel") (name := "begins") (desc := "[I") hX6_lays_X6 4 rfl rfl 8 (by decide) kX6_lays_f22 ⟨rfl, rfl, rfl⟩ (v := .ref m1) rfl dX6_lays_144 ?_
              refine z_iload_n (pc := 147) hX 4 rfl rfl dX6_lays_147 ?_
              refine z_iald (pc := 148) hX (N := 20) (F := uZ B1 i (bgA S (sF S) (sK S) (S 7) (i))) 0 rfl (by omega) (by omega) dX6_lays_148 ?_
              refine z_iload_n (pc := 149) hX 1 rfl rfl dX6_lays_149 ?_
              refine z_bif_eq (pc := 150) (tgt := 168) hX (by decide) dX6_lays_150 (fun c_19 => by first | exact absurd c_19 c_3 | exact absurd c_3 c_19) (fun c_19 => ?_)
              refine z_aload_n (pc := 153) hX 2 rfl rfl dX6_lays_153 ?_
              refine z_get (pc := 154) hX (T := TX6) (C := RX6) (N := 17) (i := 7) (ref := "SignLettersModel") (name := "s") (desc := "[I") hX6_lays_X6 4 rfl rfl 1 (by decide) kX6_lays_f7 ⟨rfl, rfl, rfl⟩ (v := .ref s1) rfl dX6_lays_154 ?_
              refine z_bipush (pc := 157) hX (z := 8) (by decide +kernel) dX6_lays_157 ?_
              refine z_iload_n (pc := 159) hX 4 rfl rfl dX6_lays_159 ?_
              refine z_iadd (pc := 160) hX dX6_lays_160 ?_
              refine z_iald (pc := 161) hX (N := 48) (F := S) 5 rfl (by omega) (by omega) dX6_lays_161 ?_
              refine z_callS_i (pc := 162) (As := [.int (iI (S (8 + i)))]) (rest := [.int (iI ((uZ B1 i (bgA S (sF S) (sK S) (S 7) (i))) i))]) (wc := []) (wr := [(m1, zI G 20 (uZ B1 i (bgA S (sF S) (sK S) (S 7) (i)))), (m2, zI G 20 (N1)), (m3, zI G 20 (uZ G1 i (gpA S (sF S) (sK S) (S 7) (i)))), (m4, zI G 20 (uZ A1 i (arA S (sF S) (sK S) (S 7) (i)))), (m, .inr (6, [.int (iI (th)), .ref s1, .ref s2, .int (iI (sm)), .ref s3, .int (iI (bI (hs = true))), .ref s4, .int (iI (len)), .ref m1, .ref m2, .ref m3, .ref m4, .int (iI (ax)), .ref l1, .ref l2, .int (iI (rm)), .long (hh)])), (s1, zI G 48 (S))]) hX (mX6_widthOf G (S (8 + i)) (by first | assumption | omega | (clear ex hX ih_4; grind [uZ]))) rfl rfl rfl gX6_lays_X6_widthOf hdX6_widthOf ⟨Nat.le_of_ble_eq_true rfl, Nat.le_of_ble_eq_true rfl⟩ [] [0, 1, 2, 3, 4, 5] rfl rfl (by decide) (by decide) (by decide) rfl (Nat.le_of_ble_eq_true rfl) ⟨Nat.le_of_ble_eq_true rfl, Nat.le_of_ble_eq_true rfl⟩ dX6_lays_162 (fun r_20 u_20 h_20 => ?_)
              subst h_20
              show Z G X 5 (0) (0) [(m1, zI G 20 (uZ B1 i (bgA S (sF S) (sK S) (S 7) (i)))), (m2, zI G 20 (N1)), (m3, zI G 20 (uZ G1 i (gpA S (sF S) (sK S) (S 7) (i)))), (m4, zI G 20 (uZ A1 i (arA S (sF S) (sK S) (S 7) (i)))), (m, .inr (6, [.int (iI (th)), .ref s1, .ref s2, .int (iI (sm)), .ref s3, .int (iI (bI (hs = true))), .ref s4, .int (iI (len)), .ref m1, .ref m2, .ref m3, .ref m4, .int (iI (ax)), .ref l1, .ref l2, .int (iI (rm)), .long (hh)])), (s1, zI G 48 (S))] 165 [(4, .int (iI (0))), (3, .int (iI (bI (letA (sF S) (S 7) i ≠ -1)))), (0, .ref m), (1, .int (iI (enA S (sF S) (sK S) (S 7) (i)))), (2, .int (iI (i)))] [.int (iI (wdI (S (8 + i)))), .int (iI ((uZ B1 i (bgA S (sF S) (sK S) (S 7) (i))) i))]
              refine z_goto (pc := 165) (tgt := 174) hX (by decide) dX6_lays_165 ?_
              refine z_iadd (pc := 174) hX dX6_lays_174 ?_
              refine z_istore_n (pc := 175) hX (loc' := [(1, .int (iI (((uZ B1 i (bgA S (sF S) (sK S) (S 7) (i))) i) + (wdI (S (8 + i)))))), (4, .int (iI (0))), (3, .int (iI (bI (letA (sF S) (S 7) i ≠ -1)))), (0, .ref m), (2, .int (iI (i)))]) rfl (by decide) rfl dX6_lays_175 ?_
              refine z_aload_n (pc := 176) hX 3 rfl rfl dX6_lays_176 ?_
              refine z_get (pc := 177) hX (T := TX6) (C := RX6) (N := 17) (i := 25) (ref := "SignLettersModel") (name := "ends") (desc := "[I") hX6_lays_X6 4 rfl rfl 9 (by decide) kX6_lays_f25 ⟨rfl, rfl, rfl⟩ (v := .ref m2) rfl dX6_lays_177 ?_
              refine z_iload_n (pc := 180) hX 4 rfl rfl dX6_lays_180 ?_
              refine z_iload_n (pc := 181) hX 0 rfl rfl dX6_lays_181 ?_
              refine z_iast (pc := 182) hX (N := 20) (F := N1) (WS' := [(m1, zI G 20 (uZ B1 i (bgA S (sF S) (sK S) (S 7) (i)))), (m2, zI G 20 (uZ N1 i (((uZ B1 i (bgA S (sF S) (sK S) (S 7) (i))) i) + (wdI (S (8 + i)))))), (m3, zI G 20 (uZ G1 i (gpA S (sF S) (sK S) (S 7) (i)))), (m4, zI G 20 (uZ A1 i (arA S (sF S) (sK S) (S 7) (i)))), (m, .inr (6, [.int (iI (th)), .ref s1, .ref s2, .int (iI (sm)), .ref s3, .int (iI (bI (hs = true))), .ref s4, .int (iI (len)), .ref m1, .ref m2, .ref m3, .ref m4, .int (iI (ax)), .ref l1, .ref l2, .int (iI (rm)), .long (hh)])), (s1, zI G 48 (S))]) 1 rfl (by omega) (by omega) rfl dX6_lays_182 ?_
              refine z_iinc (pc := 183) hX (loc' := [(2, .int (iI (i + 1))), (1, .int (iI (((uZ B1 i (bgA S (sF S) (sK S) (S 7) (i))) i) + (wdI (S (8 + i)))))), (4, .int (iI (0))), (3, .int (iI (bI (letA (sF S) (S 7) i ≠ -1)))), (0, .ref m)]) 4 rfl (by decide) rfl dX6_lays_183 ?_
              refine z_goto (pc := 186) (tgt := 4) hX (by decide) dX6_lays_186 ?_
              refine (congrArg (fun z_ : Int => Z G X 5 (0) (0) [(m1, zI G 20 (uZ B1 i (bgA S (sF S) (sK S) (S 7) (i)))), (m2, zI G 20 (uZ N1 i (((uZ B1 i (bgA S (sF S) (sK S) (S 7) (i))) i) + (wdI (S (8 + i)))))), (m3, zI G 20 (uZ G1 i (gpA S (sF S) (sK S) (S 7) (i)))), (m4, zI G 20 (uZ A1 i (arA S (sF S) (sK S) (S 7) (i)))), (m, .inr (6, [.int (iI (th)), .ref s1, .ref s2, .int (iI (sm)), .ref s3, .int (iI (bI (hs = true))), .ref s4, .int (iI (len)), .ref m1, .ref m2, .ref m3, .ref m4, .int (iI (ax)), .ref l1, .ref l2, .int (iI (rm)), .long (hh)])), (s1, zI G 48 (S))] 4 [(2, .int (iI (i + 1))), (1, .int (iI (z_))), (4, .int (iI (0))), (3, .int (iI (bI (letA (sF S) (S 7) i ≠ -1)))), (0, .ref m)] []) (show (((uZ B1 i (bgA S (sF S) (sK S) (S 7) (i))) i) + (wdI (S (8 + i))) : Int) = enA S (sF S) (sK S) (S 7) ((i + 1)) from by first | rfl | (rw [enA_s _ _ _ _ h0, uZ_at]; unfold bgA wdP; first | (rw [if_pos (show letA (sF S) (S 7) i = -1 by omega)]; done) | (rw [if_neg (show ¬ letA (sF S) (S 7) i = -1 by omega), hfp]; done)))).mpr ?_
              refine z_at [4, 1, 0] [4, 5, 0, 1, 2, 3] (loc' := [(0, .ref m), (1, .int (iI (enA S (sF S) (sK S) (S 7) ((i + 1))))), (2, .int (iI ((i + 1))))]) (WS' := [(m, .inr (6, [.int (iI (th)), .ref s1, .ref s2, .int (iI (sm)), .ref s3, .int (iI (bI (hs = true))), .ref s4, .int (iI (len)), .ref m1, .ref m2, .ref m3, .ref m4, .int (iI (ax)), .ref l1, .ref l2, .int (iI (rm)), .long (hh)])), (s1, zI G 48 (S)), (m1, zI G 20 ((uZ B1 i (bgA S (sF S) (sK S) (S 7) (i))))), (m2, zI G 20 ((uZ N1 i (((uZ B1 i (bgA S (sF S) (sK S) (S 7) (i))) i) + (wdI (S (8 + i))))))), (m3, zI G 20 ((uZ G1 i (gpA S (sF S) (sK S) (S 7) (i))))), (m4, zI G 20 ((uZ A1 i (arA S (sF S) (sK S) (S 7) (i)))))]) rfl (by decide) rfl ?_
              exact ih_4 (i + 1) (uZ B1 i (bgA S (sF S) (sK S) (S 7) (i))) (uZ N1 i (((uZ B1 i (bgA S (sF S) (sK S) (S 7) (i))) i) + (wdI (S (8 + i))))) (uZ G1 i (gpA S (sF S) (sK S) (S 7) (i))) (uZ A1 i (arA S (sF S) (sK S) (S 7) (i))) (by first | assumption | omega | (clear ex hX ih_4; grind [uZ])) (by first | assumption | omega | (clear ex hX ih_4; grind [uZ])) (by exact uZ_step hB rfl) (by refine uZ_step hN ?_; rw [enA_s _ _ _ _ h0, uZ_at]; unfold bgA wdP; first | (rw [if_pos (show letA (sF S) (S 7) i = -1 by omega)]; done) | (rw [if_neg (show ¬ letA (sF S) (S 7) i = -1 by omega), hfp]; done)) (by exact uZ_step hG rfl) (by exact uZ_step hA rfl) (by omega)
            · refine z_iconst (pc := 68) hX dX6_lays_68 ?_
              refine z_goto (pc := 69) (tgt := 73) hX (by decide) dX6_lays_69 ?_
              refine z_istore (pc := 73) hX (loc' := [(4, .int (iI (1))), (3, .int (iI (bI (letA (sF S) (S 7) i ≠ -1)))), (0, .ref m), (1, .int (iI (enA S (sF S) (sK S) (S 7) (i)))), (2, .int (iI (i)))]) (by decide) rfl dX6_lays_73 ?_
              refine z_aload_n (pc := 75) hX 2 rfl rfl dX6_lays_75 ?_
              refine z_get (pc := 76) hX (T := TX6) (C := RX6) (N := 17) (i := 28) (ref := "SignLettersModel") (name := "gaps") (desc := "[I") hX6_lays_X6 4 rfl rfl 10 (by decide) kX6_lays_f28 ⟨rfl, rfl, rfl⟩ (v := .ref m3) rfl dX6_lays_76 ?_
              refine z_iload_n (pc := 79) hX 4 rfl rfl dX6_lays_79 ?_
              refine z_iload (pc := 80) hX 0 rfl dX6_lays_80 ?_
              refine z_if_eq (pc := 82) (tgt := 96) hX (by decide) (by omega) dX6_lays_82 (fun c_21 => absurd c_21 (by first | omega | (clear ex hX ih_4; grind [uZ]))) (fun c_21 => ?_)
              refine z_aload_n (pc := 85) hX 2 rfl rfl dX6_lays_85 ?_
              refine z_get (pc := 86) hX (T := TX6) (C := RX6) (N := 17) (i := 22) (ref := "SignLettersModel") (name := "begins") (desc := "[I") hX6_lays_X6 4 rfl rfl 8 (by decide) kX6_lays_f22 ⟨rfl, rfl, rfl⟩ (v := .ref m1) rfl dX6_lays_86 ?_
              refine z_iload_n (pc := 89) hX 4 rfl rfl dX6_lays_89 ?_
              refine z_iald (pc := 90) hX (N := 20) (F := uZ B1 i (bgA S (sF S) (sK S) (S 7) (i))) 0 rfl (by omega) (by omega) dX6_lays_90 ?_
              refine z_iload_n (pc := 91) hX 3 rfl rfl dX6_lays_91 ?_
              refine z_isub (pc := 92) hX dX6_lays_92 ?_
              refine z_goto (pc := 93) (tgt := 97) hX (by decide) dX6_lays_93 ?_
              refine z_iast (pc := 97) hX (N := 20) (F := G1) (WS' := [(m1, zI G 20 (uZ B1 i (bgA S (sF S) (sK S) (S 7) (i)))), (m2, zI G 20 (N1)), (m3, zI G 20 (uZ G1 i (((uZ B1 i (bgA S (sF S) (sK S) (S 7) (i))) i) - (enA S (sF S) (sK S) (S 7) (i))))), (m4, zI G 20 (A1)), (m, .inr (6, [.int (iI (th)), .ref s1, .ref s2, .int (iI (sm)), .ref s3, .int (iI (bI (hs = true))), .ref s4, .int (iI (len)), .ref m1, .ref m2, .ref m3, .ref m4, .int (iI (ax)), .ref l1, .ref l2, .int (iI (rm)), .long (hh)])), (s1, zI G 48 (S))]) 2 rfl (by omega) (by omega) rfl dX6_lays_97 ?_
              refine z_arrX (N := 20) (F := uZ G1 i (((uZ B1 i (bgA S (sF S) (sK S) (S 7) (i))) i) - (enA S (sF S) (sK S) (S 7) (i)))) (F1 := uZ G1 i (gpA S (sF S) (sK S) (S 7) (i))) (WS1 := [(m1, zI G 20 (uZ B1 i (bgA S (sF S) (sK S) (S 7) (i)))), (m2, zI G 20 (N1)), (m3, zI G 20 (uZ G1 i (gpA S (sF S) (sK S) (S 7) (i)))), (m4, zI G 20 (A1)), (m, .inr (6, [.int (iI (th)), .ref s1, .ref s2, .int (iI (sm)), .ref s3, .int (iI (bI (hs = true))), .ref s4, .int (iI (len)), .ref m1, .ref m2, .ref m3, .ref m4, .int (iI (ax)), .ref l1, .ref l2, .int (iI (rm)), .long (hh)])), (s1, zI G 48 (S))]) 2 rfl (fun j hj0 hj1 => by first | (rw [uZ_at, gpA_bg (prS_t.mpr ⟨by assumption, by assumption⟩)]; done) | (rw [gpA_f (fun w => absurd (prS_t.mp w).1 (by assumption))]; done) | (rw [gpA_f (fun w => absurd (prS_t.mp w).2 (by assumption))]; done) | (rw [gpA_f (fun w => absurd (prS_in w) (by omega))]; done)) rfl ?_
              refine z_aload_n (pc := 98) hX 2 rfl rfl dX6_lays_98 ?_
              refine z_get (pc := 99) hX (T := TX6) (C := RX6) (N := 17) (i := 31) (ref := "SignLettersModel") (name := "areas") (desc := "[I") hX6_lays_X6 4 rfl rfl 11 (by decide) kX6_lays_f31 ⟨rfl, rfl, rfl⟩ (v := .ref m4) rfl dX6_lays_99 ?_
              refine z_iload_n (pc := 102) hX 4 rfl rfl dX6_lays_102 ?_
              refine z_iload (pc := 103) hX 0 rfl dX6_lays_103 ?_
              refine z_if_eq (pc := 105) (tgt := 141) hX (by decide) (by omega) dX6_lays_105 (fun c_22 => absurd c_22 (by first | omega | (clear ex hX ih_4; grind [uZ]))) (fun c_22 => ?_)
              have hpr : prS (sF S) (S 7) i = true := prS_t.mpr ⟨by assumption, by assumption⟩
              have hfq : letA (sF S) (S 7) (i - 1) = S (8 + i - 1) := by rw [letA_i (by omega)]; unfold sF; rw [show (8 : Int) + (i - 1) = 8 + i - 1 by omega]
              have hlq := letA_r (j := i - 1) hF
              have hgr := gpA_r (F := sF S) (p := i) hE hK (by omega)
              have hgt : 0 ≤ gpA S (sF S) (sK S) (S 7) i := by rw [gpA_t hpr]; exact (gpP_r (F := sF S) hE hK (by omega)).1
              refine z_aload_n (pc := 108) hX 2 rfl rfl dX6_lays_108 ?_
              refine z_aload_n (pc := 109) hX 2 rfl rfl dX6_lays_109 ?_
              refine z_get (pc := 110) hX (T := TX6) (C := RX6) (N := 17) (i := 7) (ref := "SignLettersModel") (name := "s") (desc := "[I") hX6_lays_X6 4 rfl rfl 1 (by decide) kX6_lays_f7 ⟨rfl, rfl, rfl⟩ (v := .ref s1) rfl dX6_lays_110 ?_
              refine z_bipush (pc := 113) hX (z := 8) (by decide +kernel) dX6_lays_113 ?_
              refine z_iload_n (pc := 115) hX 4 rfl rfl dX6_lays_115 ?_
              refine z_iadd (pc := 116) hX dX6_lays_116 ?_
              refine z_iconst (pc := 117) hX dX6_lays_117 ?_
              refine z_isub (pc := 118) hX dX6_lays_118 ?_
              refine z_iald (pc := 119) hX (N := 48) (F := S) 5 rfl (by omega) (by omega) dX6_lays_119 ?_
              refine z_aload_n (pc := 120) hX 2 rfl rfl dX6_lays_120 ?_
              refine z_get (pc := 121) hX (T := TX6) (C := RX6) (N := 17) (i := 7) (ref := "SignLettersModel") (name := "s") (desc := "[I") hX6_lays_X6 4 rfl rfl 1 (by decide) kX6_lays_f7 ⟨rfl, rfl, rfl⟩ (v := .ref s1) rfl dX6_lays_121 ?_
              refine z_bipush (pc := 124) hX (z := 8) (by decide +kernel) dX6_lays_124 ?_
              refine z_iload_n (pc := 126) hX 4 rfl rfl dX6_lays_126 ?_
              refine z_iadd (pc := 127) hX dX6_lays_127 ?_
              refine z_iald (pc := 128) hX (N := 48) (F := S) 5 rfl (by omega) (by omega) dX6_lays_128 ?_
              refine z_aload_n (pc := 129) hX 2 rfl rfl dX6_lays_129 ?_
              refine z_get (pc := 130) hX (T := TX6) (C := RX6) (N := 17) (i := 28) (ref := "SignLettersModel") (name := "gaps") (desc := "[I") hX6_lays_X6 4 rfl rfl 10 (by decide) kX6_lays_f28 ⟨rfl, rfl, rfl⟩ (v := .ref m3) rfl dX6_lays_130 ?_
              refine z_iload_n (pc := 133) hX 4 rfl rfl dX6_lays_133 ?_
              refine z_iald (pc := 134) hX (N := 20) (F := uZ G1 i (gpA S (sF S) (sK S) (S 7) (i))) 2 rfl (by omega) (by omega) dX6_lays_134 ?_
              refine z_callV_i (pc := 135) (As := [.int (iI (S ((8 + i) - 1))), .int (iI (S (8 + i))), .int (iI ((uZ G1 i (gpA S (sF S) (sK S) (S 7) (i))) i))]) (rest := [.int (iI (i)), .ref m4]) (wc := [(m, .inr (6, [.int (iI (th)), .ref s1, .ref s2, .int (iI (sm)), .ref s3, .int (iI (bI (hs = true))), .ref s4, .int (iI (len)), .ref m1, .ref m2, .ref m3, .ref m4, .int (iI (ax)), .ref l1, .ref l2, .int (iI (rm)), .long (hh)])), (s1, zI G 48 (S))]) (wr := [(m1, zI G 20 (uZ B1 i (bgA S (sF S) (sK S) (S 7) (i)))), (m2, zI G 20 (N1)), (m3, zI G 20 (uZ G1 i (gpA S (sF S) (sK S) (S 7) (i)))), (m4, zI G 20 (A1))]) hX (mX6_area G (m) (s1) (s2) (s3) (s4) (m1) (m2) (m3) (m4) (l1) (l2) (th) (sm) (len) (ax) (rm) (hs) (hh) (S) (S ((8 + i) - 1)) (S (8 + i)) ((uZ G1 i (gpA S (sF S) (sK S) (S 7) (i))) i) (by first | assumption | omega | (clear ex hX ih_4; grind [uZ])) (by first | assumption | omega | (clear ex hX ih_4; grind [uZ])) (by first | assumption | omega | (clear ex hX ih_4; grind [uZ])) (by rw [uZ_at]; omega)) rfl rfl rfl (C := RX6) gX6_lays_X6_area ⟨rfl, hdX6_area⟩ (T := TX6) (N := 17) 0 rfl rfl ⟨Nat.le_of_ble_eq_true rfl, Nat.le_of_ble_eq_true rfl⟩ [4, 5] [0, 1, 2, 3] rfl rfl (by decide) (by decide) (by decide) rfl (Nat.le_of_ble_eq_true rfl) ⟨Nat.le_of_ble_eq_true rfl, Nat.le_of_ble_eq_true rfl⟩ dX6_lays_135 (fun r_23 u_23 h_23 => ?_)
              subst h_23
              show Z G X 5 (0) (0) [(m1, zI G 20 (uZ B1 i (bgA S (sF S) (sK S) (S 7) (i)))), (m2, zI G 20 (N1)), (m3, zI G 20 (uZ G1 i (gpA S (sF S) (sK S) (S 7) (i)))), (m4, zI G 20 (A1)), (m, .inr (6, [.int (iI (th)), .ref s1, .ref s2, .int (iI (sm)), .ref s3, .int (iI (bI (hs = true))), .ref s4, .int (iI (len)), .ref m1, .ref m2, .ref m3, .ref m4, .int (iI (ax)), .ref l1, .ref l2, .int (iI (rm)), .long (hh)])), (s1, zI G 48 (S))] 138 [(4, .int (iI (1))), (3, .int (iI (bI (letA (sF S) (S 7) i ≠ -1)))), (0, .ref m), (1, .int (iI (enA S (sF S) (sK S) (S 7) (i)))), (2, .int (iI (i)))] [.int (iI (arS (inZ S (S ((8 + i) - 1)) (S (8 + i))) (S 1) ((uZ G1 i (gpA S (sF S) (sK S) (S 7) (i))) i))), .int (iI (i)), .ref m4]
              refine z_goto (pc := 138) (tgt := 142) hX (by decide) dX6_lays_138 ?_
              refine z_iast (pc := 142) hX (N := 20) (F := A1) (WS' := [(m1, zI G 20 (uZ B1 i (bgA S (sF S) (sK S) (S 7) (i)))), (m2, zI G 20 (N1)), (m3, zI G 20 (uZ G1 i (gpA S (sF S) (sK S) (S 7) (i)))), (m4, zI G 20 (uZ A1 i (arS (inZ S (S ((8 + i) - 1)) (S (8 + i))) (S 1) ((uZ G1 i (gpA S (sF S) (sK S) (S 7) (i))) i)))), (m, .inr (6, [.int (iI (th)), .ref s1, .ref s2, .int (iI (sm)), .ref s3, .int (iI (bI (hs = true))), .ref s4, .int (iI (len)), .ref m1, .ref m2, .ref m3, .ref m4, .int (iI (ax)), .ref l1, .ref l2, .int (iI (rm)), .long (hh)])), (s1, zI G 48 (S))]) 3 rfl (by omega) (by omega) rfl dX6_lays_142 ?_
              refine z_arrX (N := 20) (F := uZ A1 i (arS (inZ S (S ((8 + i) - 1)) (S (8 + i))) (S 1) ((uZ G1 i (gpA S (sF S) (sK S) (S 7) (i))) i))) (F1 := uZ A1 i (arA S (sF S) (sK S) (S 7) (i))) (WS1 := [(m1, zI G 20 (uZ B1 i (bgA S (sF S) (sK S) (S 7) (i)))), (m2, zI G 20 (N1)), (m3, zI G 20 (uZ G1 i (gpA S (sF S) (sK S) (S 7) (i)))), (m4, zI G 20 (uZ A1 i (arA S (sF S) (sK S) (S 7) (i)))), (m, .inr (6, [.int (iI (th)), .ref s1, .ref s2, .int (iI (sm)), .ref s3, .int (iI (bI (hs = true))), .ref s4, .int (iI (len)), .ref m1, .ref m2, .ref m3, .ref m4, .int (iI (ax)), .ref l1, .ref l2, .int (iI (rm)), .long (hh)])), (s1, zI G 48 (S))]) 3 rfl (fun j hj0 hj1 => by first | (rw [inZ_s hpr, arA_t hpr, uZ_at, gpA_t hpr]; rfl) | (rw [arA_f (fun w => absurd (prS_t.mp w).1 (by assumption))]; done) | (rw [arA_f (fun w => absurd (prS_t.mp w).2 (by assumption))]; done) | (rw [arA_f (fun w => absurd (prS_in w) (by omega))]; done)) rfl ?_
              refine z_aload_n (pc := 143) hX 2 rfl rfl dX6_lays_143 ?_
              refine z_get (pc := 144) hX (T := TX6) (C := RX6) (N := 17) (i := 22) (ref := "SignLettersModel") (name := "begins") (desc := "[I") hX6_lays_X6 4 rfl rfl 8 (by decide) kX6_lays_f22 ⟨rfl, rfl, rfl⟩ (v := .ref m1) rfl dX6_lays_144 ?_
              refine z_iload_n (pc := 147) hX 4 rfl rfl dX6_lays_147 ?_
              refine z_iald (pc := 148) hX (N := 20) (F := uZ B1 i (bgA S (sF S) (sK S) (S 7) (i))) 0 rfl (by omega) (by omega) dX6_lays_148 ?_
              refine z_iload_n (pc := 149) hX 1 rfl rfl dX6_lays_149 ?_
              refine z_bif_eq (pc := 150) (tgt := 168) hX (by decide) dX6_lays_150 (fun c_24 => by first | exact absurd c_24 c_3 | exact absurd c_3 c_24) (fun c_24 => ?_)
              refine z_aload_n (pc := 153) hX 2 rfl rfl dX6_lays_153 ?_
              refine z_get (pc := 154) hX (T := TX6) (C := RX6) (N := 17) (i := 7) (ref := "SignLettersModel") (name := "s") (desc := "[I") hX6_lays_X6 4 rfl rfl 1 (by decide) kX6_lays_f7 ⟨rfl, rfl, rfl⟩ (v := .ref s1) rfl dX6_lays_154 ?_
              refine z_bipush (pc := 157) hX (z := 8) (by decide +kernel) dX6_lays_157 ?_
              refine z_iload_n (pc := 159) hX 4 rfl rfl dX6_lays_159 ?_
              refine z_iadd (pc := 160) hX dX6_lays_160 ?_
              refine z_iald (pc := 161) hX (N := 48) (F := S) 5 rfl (by omega) (by omega) dX6_lays_161 ?_
              refine z_callS_i (pc := 162) (As := [.int (iI (S (8 + i)))]) (rest := [.int (iI ((uZ B1 i (bgA S (sF S) (sK S) (S 7) (i))) i))]) (wc := []) (wr := [(m1, zI G 20 (uZ B1 i (bgA S (sF S) (sK S) (S 7) (i)))), (m2, zI G 20 (N1)), (m3, zI G 20 (uZ G1 i (gpA S (sF S) (sK S) (S 7) (i)))), (m4, zI G 20 (uZ A1 i (arA S (sF S) (sK S) (S 7) (i)))), (m, .inr (6, [.int (iI (th)), .ref s1, .ref s2, .int (iI (sm)), .ref s3, .int (iI (bI (hs = true))), .ref s4, .int (iI (len)), .ref m1, .ref m2, .ref m3, .ref m4, .int (iI (ax)), .ref l1, .ref l2, .int (iI (rm)), .long (hh)])), (s1, zI G 48 (S))]) hX (mX6_widthOf G (S (8 + i)) (by first | assumption | omega | (clear ex hX ih_4; grind [uZ]))) rfl rfl rfl gX6_lays_X6_widthOf hdX6_widthOf ⟨Nat.le_of_ble_eq_true rfl, Nat.le_of_ble_eq_true rfl⟩ [] [0, 1, 2, 3, 4, 5] rfl rfl (by decide) (by decide) (by decide) rfl (Nat.le_of_ble_eq_true rfl) ⟨Nat.le_of_ble_eq_true rfl, Nat.le_of_ble_eq_true rfl⟩ dX6_lays_162 (fun r_25 u_25 h_25 => ?_)
              subst h_25
              show Z G X 5 (0) (0) [(m1, zI G 20 (uZ B1 i (bgA S (sF S) (sK S) (S 7) (i)))), (m2, zI G 20 (N1)), (m3, zI G 20 (uZ G1 i (gpA S (sF S) (sK S) (S 7) (i)))), (m4, zI G 20 (uZ A1 i (arA S (sF S) (sK S) (S 7) (i)))), (m, .inr (6, [.int (iI (th)), .ref s1, .ref s2, .int (iI (sm)), .ref s3, .int (iI (bI (hs = true))), .ref s4, .int (iI (len)), .ref m1, .ref m2, .ref m3, .ref m4, .int (iI (ax)), .ref l1, .ref l2, .int (iI (rm)), .long (hh)])), (s1, zI G 48 (S))] 165 [(4, .int (iI (1))), (3, .int (iI (bI (letA (sF S) (S 7) i ≠ -1)))), (0, .ref m), (1, .int (iI (enA S (sF S) (sK S) (S 7) (i)))), (2, .int (iI (i)))] [.int (iI (wdI (S (8 + i)))), .int (iI ((uZ B1 i (bgA S (sF S) (sK S) (S 7) (i))) i))]
              refine z_goto (pc := 165) (tgt := 174) hX (by decide) dX6_lays_165 ?_
              refine z_iadd (pc := 174) hX dX6_lays_174 ?_
              refine z_istore_n (pc := 175) hX (loc' := [(1, .int (iI (((uZ B1 i (bgA S (sF S) (sK S) (S 7) (i))) i) + (wdI (S (8 + i)))))), (4, .int (iI (1))), (3, .int (iI (bI (letA (sF S) (S 7) i ≠ -1)))), (0, .ref m), (2, .int (iI (i)))]) rfl (by decide) rfl dX6_lays_175 ?_
              refine z_aload_n (pc := 176) hX 3 rfl rfl dX6_lays_176 ?_
              refine z_get (pc := 177) hX (T := TX6) (C := RX6) (N := 17) (i := 25) (ref := "SignLettersModel") (name := "ends") (desc := "[I") hX6_lays_X6 4 rfl rfl 9 (by decide) kX6_lays_f25 ⟨rfl, rfl, rfl⟩ (v := .ref m2) rfl dX6_lays_177 ?_
              refine z_iload_n (pc := 180) hX 4 rfl rfl dX6_lays_180 ?_
              refine z_iload_n (pc := 181) hX 0 rfl rfl dX6_lays_181 ?_
              refine z_iast (pc := 182) hX (N := 20) (F := N1) (WS' := [(m1, zI G 20 (uZ B1 i (bgA S (sF S) (sK S) (S 7) (i)))), (m2, zI G 20 (uZ N1 i (((uZ B1 i (bgA S (sF S) (sK S) (S 7) (i))) i) + (wdI (S (8 + i)))))), (m3, zI G 20 (uZ G1 i (gpA S (sF S) (sK S) (S 7) (i)))), (m4, zI G 20 (uZ A1 i (arA S (sF S) (sK S) (S 7) (i)))), (m, .inr (6, [.int (iI (th)), .ref s1, .ref s2, .int (iI (sm)), .ref s3, .int (iI (bI (hs = true))), .ref s4, .int (iI (len)), .ref m1, .ref m2, .ref m3, .ref m4, .int (iI (ax)), .ref l1, .ref l2, .int (iI (rm)), .long (hh)])), (s1, zI G 48 (S))]) 1 rfl (by omega) (by omega) rfl dX6_lays_182 ?_
              refine z_iinc (pc := 183) hX (loc' := [(2, .int (iI (i + 1))), (1, .int (iI (((uZ B1 i (bgA S (sF S) (sK S) (S 7) (i))) i) + (wdI (S (8 + i)))))), (4, .int (iI (1))), (3, .int (iI (bI (letA (sF S) (S 7) i ≠ -1)))), (0, .ref m)]) 4 rfl (by decide) rfl dX6_lays_183 ?_
              refine z_goto (pc := 186) (tgt := 4) hX (by decide) dX6_lays_186 ?_
              refine (congrArg (fun z_ : Int => Z G X 5 (0) (0) [(m1, zI G 20 (uZ B1 i (bgA S (sF S) (sK S) (S 7) (i)))), (m2, zI G 20 (uZ N1 i (((uZ B1 i (bgA S (sF S) (sK S) (S 7) (i))) i) + (wdI (S (8 + i)))))), (m3, zI G 20 (uZ G1 i (gpA S (sF S) (sK S) (S 7) (i)))), (m4, zI G 20 (uZ A1 i (arA S (sF S) (sK S) (S 7) (i)))), (m, .inr (6, [.int (iI (th)), .ref s1, .ref s2, .int (iI (sm)), .ref s3, .int (iI (bI (hs = true))), .ref s4, .int (iI (len)), .ref m1, .ref m2, .ref m3, .ref m4, .int (iI (ax)), .ref l1, .ref l2, .int (iI (rm)), .long (hh)])), (s1, zI G 48 (S))] 4 [(2, .int (iI (i + 1))), (1, .int (iI (z_))), (4, .int (iI (1))), (3, .int (iI (bI (letA (sF S) (S 7) i ≠ -1)))), (0, .ref m)] []) (show (((uZ B1 i (bgA S (sF S) (sK S) (S 7) (i))) i) + (wdI (S (8 + i))) : Int) = enA S (sF S) (sK S) (S 7) ((i + 1)) from by first | rfl | (rw [enA_s _ _ _ _ h0, uZ_at]; unfold bgA wdP; first | (rw [if_pos (show letA (sF S) (S 7) i = -1 by omega)]; done) | (rw [if_neg (show ¬ letA (sF S) (S 7) i = -1 by omega), hfp]; done)))).mpr ?_
              refine z_at [4, 1, 0] [4, 5, 0, 1, 2, 3] (loc' := [(0, .ref m), (1, .int (iI (enA S (sF S) (sK S) (S 7) ((i + 1))))), (2, .int (iI ((i + 1))))]) (WS' := [(m, .inr (6, [.int (iI (th)), .ref s1, .ref s2, .int (iI (sm)), .ref s3, .int (iI (bI (hs = true))), .ref s4, .int (iI (len)), .ref m1, .ref m2, .ref m3, .ref m4, .int (iI (ax)), .ref l1, .ref l2, .int (iI (rm)), .long (hh)])), (s1, zI G 48 (S)), (m1, zI G 20 ((uZ B1 i (bgA S (sF S) (sK S) (S 7) (i))))), (m2, zI G 20 ((uZ N1 i (((uZ B1 i (bgA S (sF S) (sK S) (S 7) (i))) i) + (wdI (S (8 + i))))))), (m3, zI G 20 ((uZ G1 i (gpA S (sF S) (sK S) (S 7) (i))))), (m4, zI G 20 ((uZ A1 i (arA S (sF S) (sK S) (S 7) (i)))))]) rfl (by decide) rfl ?_
              exact ih_4 (i + 1) (uZ B1 i (bgA S (sF S) (sK S) (S 7) (i))) (uZ N1 i (((uZ B1 i (bgA S (sF S) (sK S) (S 7) (i))) i) + (wdI (S (8 + i))))) (uZ G1 i (gpA S (sF S) (sK S) (S 7) (i))) (uZ A1 i (arA S (sF S) (sK S) (S 7) (i))) (by first | assumption | omega | (clear ex hX ih_4; grind [uZ])) (by first | assumption | omega | (clear ex hX ih_4; grind [uZ])) (by exact uZ_step hB rfl) (by refine uZ_step hN ?_; rw [enA_s _ _ _ _ h0, uZ_at]; unfold bgA wdP; first | (rw [if_pos (show letA (sF S) (S 7) i = -1 by omega)]; done) | (rw [if_neg (show ¬ letA (sF S) (S 7) i = -1 by omega), hfp]; done)) (by exact uZ_step hG rfl) (by exact uZ_step hA rfl) (by omega)
  refine (congrArg (fun z_ : Int => Z G X 5 (0) (0) [(m, .inr (6, [.int (iI (th)), .ref s1, .ref s2, .int (iI (sm)), .ref s3, .int (iI (bI (hs = true))), .ref s4, .int (iI (len)), .ref m1, .ref m2, .ref m3, .ref m4, .int (iI (ax)), .ref l1, .ref l2, .int (iI (rm)), .long (hh)])), (s1, zI G 48 (S)), (m1, zI G 20 (B0)), (m2, zI G 20 (N0)), (m3, zI G 20 (G0)), (m4, zI G 20 (A))] 4 [(2, .int (iI (0))), (1, .int (iI (z_))), (0, .ref m)] []) (show (0 : Int) = enA S (sF S) (sK S) (S 7) (0) from by first | rfl | (rw [enA_s _ _ _ _ h0, uZ_at]; unfold bgA wdP; first | (rw [if_pos (show letA (sF S) (S 7) i = -1 by omega)]; done) | (rw [if_neg (show ¬ letA (sF S) (S 7) i = -1 by omega), hfp]; done)))).mpr ?_
  refine z_at [2, 1, 0] [0, 1, 2, 3, 4, 5] (loc' := [(0, .ref m), (1, .int (iI (enA S (sF S) (sK S) (S 7) (0)))), (2, .int (iI (0)))]) (WS' := [(m, .inr (6, [.int (iI (th)), .ref s1, .ref s2, .int (iI (sm)), .ref s3, .int (iI (bI (hs = true))), .ref s4, .int (iI (len)), .ref m1, .ref m2, .ref m3, .ref m4, .int (iI (ax)), .ref l1, .ref l2, .int (iI (rm)), .long (hh)])), (s1, zI G 48 (S)), (m1, zI G 20 (B0)), (m2, zI G 20 (N0)), (m3, zI G 20 (G0)), (m4, zI G 20 (A))]) rfl (by decide) rfl ?_
  exact cut_4 (Int.toNat (S 7 - 0) + 1) (0) (B0) (N0) (G0) (A) (by first | assumption | omega | (clear ex hX cut_4; grind [uZ])) (by first | assumption | omega | (clear ex hX cut_4; grind [uZ])) (by intro j j0 j1; omega) (by intro j j0 j1; omega) (by intro j j0 j1; omega) (by intro j j0 j1; omega) (by omega)
