set_option maxHeartbeats 4000000 in
set_option maxRecDepth 100000 in
theorem mX5_copyRow (G : ZG) (a : Nat) (b : Nat) (n : Nat) (F : Int → Int) (T : Int → Int) (hn : n < 2147483648) : zMetv yX5_copyRow wsX5_copyRow { frames := 0, cells := 0, slots := 0, locals := 0 } G [.ref a, .ref b] [(a, zI G n (F)), (b, zI G n (T))] (fun (uu : Unit) => True) (fun (uu : Unit) => [(a, zI G n (F)), (b, zI G n (F))]) 0 0 := by
  refine z_metv (cc := cX5_copyRow) (nL := 3) (by decide +kernel) rfl (Nat.le_of_ble_eq_true rfl) (fun X hX ex => ?_)
  have hX : ZOk G X 3 cX5_copyRow RX5 wsX5_copyRow { frames := 0, cells := 0, slots := 0, locals := 0 } := hX
  show Z G X 3 (0) (0) [(a, zI G n (F)), (b, zI G n (T))] 0 [(0, .ref a), (1, .ref b)] []
  refine z_iconst (pc := 0) hX dX5_copyRow_0 ?_
  refine z_istore_n (pc := 1) hX (loc' := [(2, .int (iI (0))), (0, .ref a), (1, .ref b)]) rfl (by decide) rfl dX5_copyRow_1 ?_
  have cut_2 : ∀ (fz : Nat) (i : Int) (T1 : Int → Int) (h0 : 0 ≤ i) (h1 : i ≤ n) (hT : ∀ j : Int, 0 ≤ j → j < i → T1 j = F j) (hm_2 : n - i < (fz : Int)), Z G X 3 (0) (0) [(a, zI G n (F)), (b, zI G n (T1))] 2 [(0, .ref a), (1, .ref b), (2, .int (iI (i)))] [] := by
    intro fz
    induction fz with
    | zero =>
      intro i T1 h0 h1 hT hm_2
      exfalso
      omega
    | succ fz ih =>
      intro i T1 h0 h1 hT hm_2
      have ih_2 := ih
      clear ih
      refine z_iload_n (pc := 2) hX 2 rfl rfl dX5_copyRow_2 ?_
      refine z_aload_n (pc := 3) hX 0 rfl rfl dX5_copyRow_3 ?_
      refine z_alen (pc := 4) hX (z := n) 0 rfl rfl dX5_copyRow_4 ?_
      refine z_icmp_ge (pc := 5) (tgt := 26) hX (by decide) (by omega) (by omega) dX5_copyRow_5 (fun c_1 => ?_) (fun c_1 => ?_)
      · refine z_arrX (N := n) (F := T1) (F1 := F) (WS1 := [(a, zI G n (F)), (b, zI G n (F))]) 1 rfl (fun j hj0 hj1 => by exact hT j hj0 (by omega)) rfl ?_
        exact ex _ _ () _ dX5_copyRow_26 trivial rfl
      · refine z_iload_n (pc := 8) hX 2 rfl rfl dX5_copyRow_8 ?_
        refine z_aload_n (pc := 9) hX 1 rfl rfl dX5_copyRow_9 ?_
        refine z_alen (pc := 10) hX (z := n) 1 rfl rfl dX5_copyRow_10 ?_
        refine z_icmp_ge (pc := 11) (tgt := 26) hX (by decide) (by omega) (by omega) dX5_copyRow_11 (fun c_2 => absurd c_2 (by first | omega | (clear ex hX; grind [uZ]))) (fun c_2 => ?_)
        refine z_aload_n (pc := 14) hX 1 rfl rfl dX5_copyRow_14 ?_
        refine z_iload_n (pc := 15) hX 2 rfl rfl dX5_copyRow_15 ?_
        refine z_aload_n (pc := 16) hX 0 rfl rfl dX5_copyRow_16 ?_
        refine z_iload_n (pc := 17) hX 2 rfl rfl dX5_copyRow_17 ?_
        refine z_iald (pc := 18) hX (N := n) (F := F) 0 rfl (by omega) (by omega) dX5_copyRow_18 ?_
        refine z_iast (pc := 19) hX (N := n) (F := T1) (WS' := [(a, zI G n (F)), (b, zI G n (uZ T1 i (F i)))]) 1 rfl (by omega) (by omega) rfl dX5_copyRow_19 ?_
        refine z_iinc (pc := 20) hX (loc' := [(2, .int (iI (i + 1))), (0, .ref a), (1, .ref b)]) 2 rfl (by decide) rfl dX5_copyRow_20 ?_
        refine z_goto (pc := 23) (tgt := 2) hX (by decide) dX5_copyRow_23 ?_
        refine z_at [1, 2, 0] [0, 1] (loc' := [(0, .ref a), (1, .ref b), (2, .int (iI ((i + 1))))]) (WS' := [(a, zI G n (F)), (b, zI G n ((uZ T1 i (F i))))]) rfl (by decide) rfl ?_
        exact ih_2 (i + 1) (uZ T1 i (F i)) (by first | assumption | omega | (clear ex hX; grind [uZ])) (by first | assumption | omega | (clear ex hX; grind [uZ])) (by first | assumption | omega | (clear ex hX; grind [uZ])) (by omega)
  refine z_at [1, 2, 0] [0, 1] (loc' := [(0, .ref a), (1, .ref b), (2, .int (iI (0)))]) (WS' := [(a, zI G n (F)), (b, zI G n (T))]) rfl (by decide) rfl ?_
  exact cut_2 (Int.toNat (n - 0) + 1) (0) (T) (by first | assumption | omega | (clear ex hX; grind [uZ])) (by first | assumption | omega | (clear ex hX; grind [uZ])) (by first | assumption | omega | (clear ex hX; grind [uZ])) (by omega)
set_option maxHeartbeats 4000000 in
set_option maxRecDepth 100000 in
theorem mX5_copyRow_F (G : ZG) (b : Nat) (T : Int → Int)  : zMetv yX5_copyRow wsX5_copyRow { frames := 0, cells := 0, slots := 0, locals := 0 } G [.ref G.2.2.2.2.1, .ref b] [(b, zI G 6 (T))] (fun (uu : Unit) => True) (fun (uu : Unit) => [(b, zI G 6 (zFs))]) 0 0 := by
  refine z_metv (cc := cX5_copyRow) (nL := 3) (by decide +kernel) rfl (Nat.le_of_ble_eq_true rfl) (fun X hX ex => ?_)
  have hX : ZOk G X 3 cX5_copyRow RX5 wsX5_copyRow { frames := 0, cells := 0, slots := 0, locals := 0 } := hX
  show Z G X 3 (0) (0) [(b, zI G 6 (T))] 0 [(0, .ref G.2.2.2.2.1), (1, .ref b)] []
  refine z_iconst (pc := 0) hX dX5_copyRow_0 ?_
  refine z_istore_n (pc := 1) hX (loc' := [(2, .int (iI (0))), (0, .ref G.2.2.2.2.1), (1, .ref b)]) rfl (by decide) rfl dX5_copyRow_1 ?_
  have cut_2 : ∀ (fz : Nat) (i : Int) (T1 : Int → Int) (h0 : 0 ≤ i) (h1 : i ≤ 6) (hT : ∀ j : Int, 0 ≤ j → j < i → T1 j = zFs j) (hm_2 : 6 - i < (fz : Int)), Z G X 3 (0) (0) [(b, zI G 6 (T1))] 2 [(0, .ref G.2.2.2.2.1), (1, .ref b), (2, .int (iI (i)))] [] := by
    intro fz
    induction fz with
    | zero =>
      intro i T1 h0 h1 hT hm_2
      exfalso
      omega
    | succ fz ih =>
      intro i T1 h0 h1 hT hm_2
      have ih_2 := ih
      clear ih
      refine z_iload_n (pc := 2) hX 2 rfl rfl dX5_copyRow_2 ?_
      refine z_aload_n (pc := 3) hX 0 rfl rfl dX5_copyRow_3 ?_
      refine z_alenF (pc := 4) hX dX5_copyRow_4 ?_
      refine z_icmp_ge (pc := 5) (tgt := 26) hX (by decide) (by omega) (by omega) dX5_copyRow_5 (fun c_1 => ?_) (fun c_1 => ?_)
      · refine z_arrX (N := 6) (F := T1) (F1 := zFs) (WS1 := [(b, zI G 6 (zFs))]) 0 rfl (fun j hj0 hj1 => by exact hT j hj0 (by omega)) rfl ?_
        exact ex _ _ () _ dX5_copyRow_26 trivial rfl
      · refine z_iload_n (pc := 8) hX 2 rfl rfl dX5_copyRow_8 ?_
        refine z_aload_n (pc := 9) hX 1 rfl rfl dX5_copyRow_9 ?_
        refine z_alen (pc := 10) hX (z := 6) 0 rfl rfl dX5_copyRow_10 ?_
        refine z_icmp_ge (pc := 11) (tgt := 26) hX (by decide) (by omega) (by omega) dX5_copyRow_11 (fun c_2 => absurd c_2 (by first | omega | (clear ex hX; grind [uZ]))) (fun c_2 => ?_)
        refine z_aload_n (pc := 14) hX 1 rfl rfl dX5_copyRow_14 ?_
        refine z_iload_n (pc := 15) hX 2 rfl rfl dX5_copyRow_15 ?_
        refine z_aload_n (pc := 16) hX 0 rfl rfl dX5_copyRow_16 ?_
        refine z_iload_n (pc := 17) hX 2 rfl rfl dX5_copyRow_17 ?_
        refine z_ialdF (pc := 18) hX (by omega) dX5_copyRow_18 ?_
        refine z_iast (pc := 19) hX (N := 6) (F := T1) (WS' := [(b, zI G 6 (uZ T1 i (zFs i)))]) 0 rfl (by omega) (by omega) rfl dX5_copyRow_19 ?_
        refine z_iinc (pc := 20) hX (loc' := [(2, .int (iI (i + 1))), (0, .ref G.2.2.2.2.1), (1, .ref b)]) 2 rfl (by decide) rfl dX5_copyRow_20 ?_
        refine z_goto (pc := 23) (tgt := 2) hX (by decide) dX5_copyRow_23 ?_
        refine z_at [1, 2, 0] [0] (loc' := [(0, .ref G.2.2.2.2.1), (1, .ref b), (2, .int (iI ((i + 1))))]) (WS' := [(b, zI G 6 ((uZ T1 i (zFs i))))]) rfl (by decide) rfl ?_
        exact ih_2 (i + 1) (uZ T1 i (zFs i)) (by first | assumption | omega | (clear ex hX; grind [uZ])) (by first | assumption | omega | (clear ex hX; grind [uZ])) (by first | assumption | omega | (clear ex hX; grind [uZ])) (by omega)
  refine z_at [1, 2, 0] [0] (loc' := [(0, .ref G.2.2.2.2.1), (1, .ref b), (2, .int (iI (0)))]) (WS' := [(b, zI G 6 (T))]) rfl (by decide) rfl ?_
  exact cut_2 (Int.toNat (6 - 0) + 1) (0) (T) (by first | assumption | omega | (clear ex hX; grind [uZ])) (by first | assumption | omega | (clear ex hX; grind [uZ])) (by first | assumption | omega | (clear ex hX; grind [uZ])) (by omega)
theorem hX3_has_X3 : ∀ w ∈ wsX30, w ∈ wsX3_has := by decide +kernel
theorem kX3_has_f32 : Cond.fieldLink RX3 32 "SignLetters$State" "items" "I" ∈ wsX3_has := by decide +kernel
set_option maxHeartbeats 4000000 in
set_option maxRecDepth 100000 in
theorem mX3_has (G : ZG) (o : Nat) (lt : Nat) (kn : Nat) (sg : Nat) (n : Int) (bd : Int) (j : Int) (hn : 0 ≤ n ∧ n ≤ 20) (hj : -2147483648 ≤ j ∧ j < 2147483648) : zMeti yX3_has wsX3_has { frames := 0, cells := 0, slots := 0, locals := 0 } G [.ref o, .int (iI (j))] [(o, .inr (3, [.ref lt, .ref kn, .ref sg, .int (iI (n)), .int (iI (bd))]))] (fun (rr : Int32) (uu : Unit) => rr = iI (bI (0 ≤ j ∧ j < n))) (fun (uu : Unit) => [(o, .inr (3, [.ref lt, .ref kn, .ref sg, .int (iI (n)), .int (iI (bd))]))]) 0 0 := by
  refine z_meti (cc := cX3_has) (nL := 2) (rt := .boolean) (by decide +kernel) rfl (Nat.le_of_ble_eq_true rfl) (fun X hX ex => ?_)
  have hX : ZOk G X 2 cX3_has RX3 wsX3_has { frames := 0, cells := 0, slots := 0, locals := 0 } := hX
  show Z G X 2 (0) (0) [(o, .inr (3, [.ref lt, .ref kn, .ref sg, .int (iI (n)), .int (iI (bd))]))] 0 [(0, .ref o), (1, .int (iI (j)))] []
  refine z_iload_n (pc := 0) hX 1 rfl rfl dX3_has_0 ?_
  refine z_if_lt (pc := 1) (tgt := 16) hX (by decide) (by omega) dX3_has_1 (fun c_1 => ?_) (fun c_1 => ?_)
  · refine z_iconst (pc := 16) hX dX3_has_16 ?_
    exact ex _ _ _ () _ dX3_has_17 (by first | decide +kernel | exact nar_b) (zb0 (by first | assumption | omega | (clear ex hX; grind [uZ]))) rfl
  · refine z_iload_n (pc := 4) hX 1 rfl rfl dX3_has_4 ?_
    refine z_aload_n (pc := 5) hX 0 rfl rfl dX3_has_5 ?_
    refine z_get (pc := 6) hX (T := TX3) (C := RX3) (N := 5) (i := 32) (ref := "SignLetters$State") (name := "items") (desc := "I") hX3_has_X3 0 rfl rfl 3 (by decide) kX3_has_f32 ⟨rfl, rfl, rfl⟩ (v := .int (iI (n))) rfl dX3_has_6 ?_
    refine z_icmp_ge (pc := 9) (tgt := 16) hX (by decide) (by omega) (by omega) dX3_has_9 (fun c_2 => ?_) (fun c_2 => ?_)
    · refine z_iconst (pc := 16) hX dX3_has_16 ?_
      exact ex _ _ _ () _ dX3_has_17 (by first | decide +kernel | exact nar_b) (zb0 (by first | assumption | omega | (clear ex hX; grind [uZ]))) rfl
    · refine z_iconst (pc := 12) hX dX3_has_12 ?_
      refine z_goto (pc := 13) (tgt := 17) hX (by decide) dX3_has_13 ?_
      exact ex _ _ _ () _ dX3_has_17 (by first | decide +kernel | exact nar_b) (zb1 (by first | assumption | omega | (clear ex hX; grind [uZ]))) rfl
theorem hX3_letterAt_X3 : ∀ w ∈ wsX30, w ∈ wsX3_letterAt := by decide +kernel
theorem hdX3_has : yX3_has.cls ≠ "java/lang/invoke/MethodHandle" ∧ yX3_has.cls ≠ "java/lang/invoke/VarHandle" ∧ (parseMethodDescriptor yX3_has.desc).map (fun d => d.parameters.length) = some 1 := by decide +kernel
theorem kX3_letterAt_f9 : Cond.fieldLink RX3 9 "SignLetters$State" "letters" "[I" ∈ wsX3_letterAt := by decide +kernel
theorem kX3_letterAt_inX5 : Cond.initialized RX5 ∈ wsX3_letterAt := by decide +kernel
theorem kX3_letterAt_stX5_valueAt : Cond.static yX5_valueAt ∈ wsX3_letterAt := by decide +kernel
set_option maxHeartbeats 4000000 in
set_option maxRecDepth 100000 in
theorem mX3_letterAt (G : ZG) (o : Nat) (lt : Nat) (kn : Nat) (sg : Nat) (n : Int) (bd : Int) (F : Int → Int) (j : Int) (hn : 0 ≤ n ∧ n ≤ 20) (hj : -2147483648 ≤ j ∧ j < 2147483648) : zMeti yX3_letterAt wsX3_letterAt { frames := 1, cells := 0, slots := 0, locals := 21 } G [.ref o, .int (iI (j))] [(o, .inr (3, [.ref lt, .ref kn, .ref sg, .int (iI (n)), .int (iI (bd))])), (lt, zI G 20 (F))] (fun (rr : Int32) (uu : Unit) => rr = iI (letA F n j)) (fun (uu : Unit) => [(o, .inr (3, [.ref lt, .ref kn, .ref sg, .int (iI (n)), .int (iI (bd))])), (lt, zI G 20 (F))]) 0 0 := by
  refine z_meti (cc := cX3_letterAt) (nL := 2) (rt := .int) (by decide +kernel) rfl (Nat.le_of_ble_eq_true rfl) (fun X hX ex => ?_)
  have hX : ZOk G X 2 cX3_letterAt RX3 wsX3_letterAt { frames := 1, cells := 0, slots := 0, locals := 21 } := hX
  show Z G X 2 (0) (0) [(o, .inr (3, [.ref lt, .ref kn, .ref sg, .int (iI (n)), .int (iI (bd))])), (lt, zI G 20 (F))] 0 [(0, .ref o), (1, .int (iI (j)))] []
  refine z_aload_n (pc := 0) hX 0 rfl rfl dX3_letterAt_0 ?_
  refine z_iload_n (pc := 1) hX 1 rfl rfl dX3_letterAt_1 ?_
  refine z_callV_i (pc := 2) (As := [.int (iI (j))]) (rest := []) (wc := [(o, .inr (3, [.ref lt, .ref kn, .ref sg, .int (iI (n)), .int (iI (bd))]))]) (wr := [(lt, zI G 20 (F))]) hX (mX3_has G (o) (lt) (kn) (sg) (n) (bd) (j) (by first | assumption | omega | (clear ex hX; grind [uZ])) (by first | assumption | omega | (clear ex hX; grind [uZ]))) rfl rfl rfl (C := RX3) gX3_letterAt_X3_has ⟨rfl, hdX3_has⟩ (T := TX3) (N := 5) 0 rfl rfl ⟨Nat.le_of_ble_eq_true rfl, Nat.le_of_ble_eq_true rfl⟩ [0] [1] rfl rfl (by decide) (by decide) (by decide) rfl (Nat.le_of_ble_eq_true rfl) ⟨Nat.le_of_ble_eq_true rfl, Nat.le_of_ble_eq_true rfl⟩ dX3_letterAt_2 (fun r_1 u_1 h_1 => ?_)
  subst h_1
  show Z G X 2 (0) (0) [(lt, zI G 20 (F)), (o, .inr (3, [.ref lt, .ref kn, .ref sg, .int (iI (n)), .int (iI (bd))]))] 5 [(0, .ref o), (1, .int (iI (j)))] [.int (iI (bI (0 ≤ j ∧ j < n)))]
  refine z_bif_eq (pc := 5) (tgt := 19) hX (by decide) dX3_letterAt_5 (fun c_2 => ?_) (fun c_2 => ?_)
  · refine z_iconst (pc := 19) hX dX3_letterAt_19 ?_
    refine z_at [0, 1] [1, 0] (loc' := [(0, .ref o), (1, .int (iI (j)))]) (WS' := [(o, .inr (3, [.ref lt, .ref kn, .ref sg, .int (iI (n)), .int (iI (bd))])), (lt, zI G 20 (F))]) rfl (by decide) rfl ?_
    exact ex _ _ _ () _ dX3_letterAt_20 rfl (congrArg iI (show ((-1) : Int) = letA F n j from by unfold letA; first | rfl | grind)) rfl
  · refine z_aload_n (pc := 8) hX 0 rfl rfl dX3_letterAt_8 ?_
    refine z_get (pc := 9) hX (T := TX3) (C := RX3) (N := 5) (i := 9) (ref := "SignLetters$State") (name := "letters") (desc := "[I") hX3_letterAt_X3 1 rfl rfl 0 (by decide) kX3_letterAt_f9 ⟨rfl, rfl, rfl⟩ (v := .ref lt) rfl dX3_letterAt_9 ?_
    refine z_iload_n (pc := 12) hX 1 rfl rfl dX3_letterAt_12 ?_
    refine z_callSN_i (pc := 13) (As := [.ref lt, .int (iI (j))]) (rest := []) (wc := [(lt, zI G 20 (F))]) (wr := [(o, .inr (3, [.ref lt, .ref kn, .ref sg, .int (iI (n)), .int (iI (bd))]))]) hX (mX5_valueAt G (lt) (20) (F) (j) (by first | assumption | omega | (clear ex hX; grind [uZ])) (by first | assumption | omega | (clear ex hX; grind [uZ]))) rfl rfl rfl gX3_letterAt_X5_valueAt_n39 hdX5_valueAt (by decide +kernel) kX3_letterAt_inX5 kX3_letterAt_stX5_valueAt ⟨Nat.le_of_ble_eq_true rfl, Nat.le_of_ble_eq_true rfl⟩ [0] [1] rfl rfl (by decide) (by decide) (by decide) rfl (Nat.le_of_ble_eq_true rfl) ⟨Nat.le_of_ble_eq_true rfl, Nat.le_of_ble_eq_true rfl⟩ dX3_letterAt_13 (fun r_3 u_3 h_3 => ?_)
    subst h_3
    show Z G X 2 (0) (0) [(o, .inr (3, [.ref lt, .ref kn, .ref sg, .int (iI (n)), .int (iI (bd))])), (lt, zI G 20 (F))] 16 [(0, .ref o), (1, .int (iI (j)))] [.int (iI (F j))]
    refine z_goto (pc := 16) (tgt := 20) hX (by decide) dX3_letterAt_16 ?_
    exact ex _ _ _ () _ dX3_letterAt_20 rfl (congrArg iI (show (F j : Int) = letA F n j from by unfold letA; first | rfl | grind)) rfl
theorem hX3_kernAt_X3 : ∀ w ∈ wsX30, w ∈ wsX3_kernAt := by decide +kernel
theorem kX3_kernAt_f15 : Cond.fieldLink RX3 15 "SignLetters$State" "kerns" "[I" ∈ wsX3_kernAt := by decide +kernel
theorem kX3_kernAt_inX5 : Cond.initialized RX5 ∈ wsX3_kernAt := by decide +kernel
theorem kX3_kernAt_stX5_valueAt : Cond.static yX5_valueAt ∈ wsX3_kernAt := by decide +kernel
set_option maxHeartbeats 4000000 in
set_option maxRecDepth 100000 in
theorem mX3_kernAt (G : ZG) (o : Nat) (lt : Nat) (kn : Nat) (sg : Nat) (n : Int) (bd : Int) (K : Int → Int) (j : Int) (hj : 0 ≤ j ∧ j < 20) : zMeti yX3_kernAt wsX3_kernAt { frames := 1, cells := 0, slots := 0, locals := 21 } G [.ref o, .int (iI (j))] [(o, .inr (3, [.ref lt, .ref kn, .ref sg, .int (iI (n)), .int (iI (bd))])), (kn, zI G 20 (K))] (fun (rr : Int32) (uu : Unit) => rr = iI (K j)) (fun (uu : Unit) => [(o, .inr (3, [.ref lt, .ref kn, .ref sg, .int (iI (n)), .int (iI (bd))])), (kn, zI G 20 (K))]) 0 0 := by
  refine z_meti (cc := cX3_kernAt) (nL := 2) (rt := .int) (by decide +kernel) rfl (Nat.le_of_ble_eq_true rfl) (fun X hX ex => ?_)
  have hX : ZOk G X 2 cX3_kernAt RX3 wsX3_kernAt { frames := 1, cells := 0, slots := 0, locals := 21 } := hX
  show Z G X 2 (0) (0) [(o, .inr (3, [.ref lt, .ref kn, .ref sg, .int (iI (n)), .int (iI (bd))])), (kn, zI G 20 (K))] 0 [(0, .ref o), (1, .int (iI (j)))] []
  refine z_aload_n (pc := 0) hX 0 rfl rfl dX3_kernAt_0 ?_
  refine z_get (pc := 1) hX (T := TX3) (C := RX3) (N := 5) (i := 15) (ref := "SignLetters$State") (name := "kerns") (desc := "[I") hX3_kernAt_X3 0 rfl rfl 1 (by decide) kX3_kernAt_f15 ⟨rfl, rfl, rfl⟩ (v := .ref kn) rfl dX3_kernAt_1 ?_
  refine z_iload_n (pc := 4) hX 1 rfl rfl dX3_kernAt_4 ?_
  refine z_callSN_i (pc := 5) (As := [.ref kn, .int (iI (j))]) (rest := []) (wc := [(kn, zI G 20 (K))]) (wr := [(o, .inr (3, [.ref lt, .ref kn, .ref sg, .int (iI (n)), .int (iI (bd))]))]) hX (mX5_valueAt G (kn) (20) (K) (j) (by first | assumption | omega | (clear ex hX; grind [uZ])) (by first | assumption | omega | (clear ex hX; grind [uZ]))) rfl rfl rfl gX3_kernAt_X5_valueAt_n39 hdX5_valueAt (by decide +kernel) kX3_kernAt_inX5 kX3_kernAt_stX5_valueAt ⟨Nat.le_of_ble_eq_true rfl, Nat.le_of_ble_eq_true rfl⟩ [1] [0] rfl rfl (by decide) (by decide) (by decide) rfl (Nat.le_of_ble_eq_true rfl) ⟨Nat.le_of_ble_eq_true rfl, Nat.le_of_ble_eq_true rfl⟩ dX3_kernAt_5 (fun r_1 u_1 h_1 => ?_)
  subst h_1
  show Z G X 2 (0) (0) [(o, .inr (3, [.ref lt, .ref kn, .ref sg, .int (iI (n)), .int (iI (bd))])), (kn, zI G 20 (K))] 8 [(0, .ref o), (1, .int (iI (j)))] [.int (iI (K j))]
  exact ex _ _ _ () _ dX3_kernAt_8 rfl rfl rfl
theorem hX3_changeKern_X3 : ∀ w ∈ wsX30, w ∈ wsX3_changeKern := by decide +kernel
theorem hdX5_store : yX5_store.cls ≠ "java/lang/invoke/MethodHandle" ∧ yX5_store.cls ≠ "java/lang/invoke/VarHandle" ∧ (parseMethodDescriptor yX5_store.desc).map (fun d => d.parameters.length) = some 3 := by decide +kernel
theorem kX3_changeKern_f15 : Cond.fieldLink RX3 15 "SignLetters$State" "kerns" "[I" ∈ wsX3_changeKern := by decide +kernel
theorem kX3_changeKern_inX5 : Cond.initialized RX5 ∈ wsX3_changeKern := by decide +kernel
theorem kX3_changeKern_stX5_store : Cond.static yX5_store ∈ wsX3_changeKern := by decide +kernel
set_option maxHeartbeats 4000000 in
set_option maxRecDepth 100000 in
theorem mX3_changeKern (G : ZG) (o : Nat) (lt : Nat) (kn : Nat) (sg : Nat) (n : Int) (bd : Int) (K : Int → Int) (j : Int) (v : Int) (hj : 0 ≤ j ∧ j < 20) : zMetv yX3_changeKern wsX3_changeKern { frames := 1, cells := 0, slots := 0, locals := 22 } G [.ref o, .int (iI (j)), .int (iI (v))] [(o, .inr (3, [.ref lt, .ref kn, .ref sg, .int (iI (n)), .int (iI (bd))])), (kn, zI G 20 (K))] (fun (uu : Unit) => True) (fun (uu : Unit) => [(o, .inr (3, [.ref lt, .ref kn, .ref sg, .int (iI (n)), .int (iI (bd))])), (kn, zI G 20 (uZ K j v))]) 0 0 := by
  refine z_metv (cc := cX3_changeKern) (nL := 3) (by decide +kernel) rfl (Nat.le_of_ble_eq_true rfl) (fun X hX ex => ?_)
  have hX : ZOk G X 3 cX3_changeKern RX3 wsX3_changeKern { frames := 1, cells := 0, slots := 0, locals := 22 } := hX
  show Z G X 3 (0) (0) [(o, .inr (3, [.ref lt, .ref kn, .ref sg, .int (iI (n)), .int (iI (bd))])), (kn, zI G 20 (K))] 0 [(0, .ref o), (1, .int (iI (j))), (2, .int (iI (v)))] []
  refine z_aload_n (pc := 0) hX 0 rfl rfl dX3_changeKern_0 ?_
  refine z_get (pc := 1) hX (T := TX3) (C := RX3) (N := 5) (i := 15) (ref := "SignLetters$State") (name := "kerns") (desc := "[I") hX3_changeKern_X3 0 rfl rfl 1 (by decide) kX3_changeKern_f15 ⟨rfl, rfl, rfl⟩ (v := .ref kn) rfl dX3_changeKern_1 ?_
  refine z_iload_n (pc := 4) hX 1 rfl rfl dX3_changeKern_4 ?_
  refine z_iload_n (pc := 5) hX 2 rfl rfl dX3_changeKern_5 ?_
  refine z_callSN_v (pc := 6) (As := [.ref kn, .int (iI (j)), .int (iI (v))]) (rest := []) (wc := [(kn, zI G 20 (K))]) (wr := [(o, .inr (3, [.ref lt, .ref kn, .ref sg, .int (iI (n)), .int (iI (bd))]))]) hX (mX5_store G (kn) (20) (K) (j) (v) (by first | assumption | omega | (clear ex hX; grind [uZ])) (by first | assumption | omega | (clear ex hX; grind [uZ]))) rfl rfl rfl gX3_changeKern_X5_store_n43 hdX5_store (by decide +kernel) kX3_changeKern_inX5 kX3_changeKern_stX5_store ⟨Nat.le_of_ble_eq_true rfl, Nat.le_of_ble_eq_true rfl⟩ [1] [0] rfl rfl (by decide) (by decide) (by decide) rfl (Nat.le_of_ble_eq_true rfl) ⟨Nat.le_of_ble_eq_true rfl, Nat.le_of_ble_eq_true rfl⟩ dX3_changeKern_6 (fun u_1 h_1 => ?_)
  show Z G X 3 (0) (0) [(o, .inr (3, [.ref lt, .ref kn, .ref sg, .int (iI (n)), .int (iI (bd))])), (kn, zI G 20 (uZ K j v))] 9 [(0, .ref o), (1, .int (iI (j))), (2, .int (iI (v)))] []
  exact ex _ _ () _ dX3_changeKern_9 trivial rfl
theorem hX3_write_X3 : ∀ w ∈ wsX30, w ∈ wsX3_write := by decide +kernel
theorem kX3_write_f15 : Cond.fieldLink RX3 15 "SignLetters$State" "kerns" "[I" ∈ wsX3_write := by decide +kernel
theorem kX3_write_f9 : Cond.fieldLink RX3 9 "SignLetters$State" "letters" "[I" ∈ wsX3_write := by decide +kernel
theorem kX3_write_inX5 : Cond.initialized RX5 ∈ wsX3_write := by decide +kernel
theorem kX3_write_stX5_store : Cond.static yX5_store ∈ wsX3_write := by decide +kernel
set_option maxHeartbeats 4000000 in
set_option maxRecDepth 100000 in
theorem mX3_write (G : ZG) (o : Nat) (lt : Nat) (kn : Nat) (sg : Nat) (n : Int) (bd : Int) (F : Int → Int) (K : Int → Int) (j : Int) (v : Int) (u : Int) (hj : 0 ≤ j ∧ j < 20) : zMetv yX3_write wsX3_write { frames := 1, cells := 0, slots := 0, locals := 22 } G [.ref o, .int (iI (j)), .int (iI (v)), .int (iI (u))] [(o, .inr (3, [.ref lt, .ref kn, .ref sg, .int (iI (n)), .int (iI (bd))])), (lt, zI G 20 (F)), (kn, zI G 20 (K))] (fun (uu : Unit) => True) (fun (uu : Unit) => [(o, .inr (3, [.ref lt, .ref kn, .ref sg, .int (iI (n)), .int (iI (bd))])), (lt, zI G 20 (uZ F j v)), (kn, zI G 20 (uZ K j u))]) 0 0 := by
  refine z_metv (cc := cX3_write) (nL := 4) (by decide +kernel) rfl (Nat.le_of_ble_eq_true rfl) (fun X hX ex => ?_)
  have hX : ZOk G X 4 cX3_write RX3 wsX3_write { frames := 1, cells := 0, slots := 0, locals := 22 } := hX
  show Z G X 4 (0) (0) [(o, .inr (3, [.ref lt, .ref kn, .ref sg, .int (iI (n)), .int (iI (bd))])), (lt, zI G 20 (F)), (kn, zI G 20 (K))] 0 [(0, .ref o), (1, .int (iI (j))), (2, .int (iI (v))), (3, .int (iI (u)))] []
  refine z_aload_n (pc := 0) hX 0 rfl rfl dX3_write_0 ?_
  refine z_get (pc := 1) hX (T := TX3) (C := RX3) (N := 5) (i := 9) (ref := "SignLetters$State") (name := "letters") (desc := "[I") hX3_write_X3 0 rfl rfl 0 (by decide) kX3_write_f9 ⟨rfl, rfl, rfl⟩ (v := .ref lt) rfl dX3_write_1 ?_
  refine z_iload_n (pc := 4) hX 1 rfl rfl dX3_write_4 ?_
  refine z_iload_n (pc := 5) hX 2 rfl rfl dX3_write_5 ?_
  refine z_callSN_v (pc := 6) (As := [.ref lt, .int (iI (j)), .int (iI (v))]) (rest := []) (wc := [(lt, zI G 20 (F))]) (wr := [(o, .inr (3, [.ref lt, .ref kn, .ref sg, .int (iI (n)), .int (iI (bd))])), (kn, zI G 20 (K))]) hX (mX5_store G (lt) (20) (F) (j) (v) (by first | assumption | omega | (clear ex hX; grind [uZ])) (by first | assumption | omega | (clear ex hX; grind [uZ]))) rfl rfl rfl gX3_write_X5_store_n43 hdX5_store (by decide +kernel) kX3_write_inX5 kX3_write_stX5_store ⟨Nat.le_of_ble_eq_true rfl, Nat.le_of_ble_eq_true rfl⟩ [1] [0, 2] rfl rfl (by decide) (by decide) (by decide) rfl (Nat.le_of_ble_eq_true rfl) ⟨Nat.le_of_ble_eq_true rfl, Nat.le_of_ble_eq_true rfl⟩ dX3_write_6 (fun u_1 h_1 => ?_)
  show Z G X 4 (0) (0) [(o, .inr (3, [.ref lt, .ref kn, .ref sg, .int (iI (n)), .int (iI (bd))])), (kn, zI G 20 (K)), (lt, zI G 20 (uZ F j v))] 9 [(0, .ref o), (1, .int (iI (j))), (2, .int (iI (v))), (3, .int (iI (u)))] []
  refine z_aload_n (pc := 9) hX 0 rfl rfl dX3_write_9 ?_
  refine z_get (pc := 10) hX (T := TX3) (C := RX3) (N := 5) (i := 15) (ref := "SignLetters$State") (name := "kerns") (desc := "[I") hX3_write_X3 0 rfl rfl 1 (by decide) kX3_write_f15 ⟨rfl, rfl, rfl⟩ (v := .ref kn) rfl dX3_write_10 ?_
  refine z_iload_n (pc := 13) hX 1 rfl rfl dX3_write_13 ?_
  refine z_iload_n (pc := 14) hX 3 rfl rfl dX3_write_14 ?_
  refine z_callSN_v (pc := 15) (As := [.ref kn, .int (iI (j)), .int (iI (u))]) (rest := []) (wc := [(kn, zI G 20 (K))]) (wr := [(o, .inr (3, [.ref lt, .ref kn, .ref sg, .int (iI (n)), .int (iI (bd))])), (lt, zI G 20 (uZ F j v))]) hX (mX5_store G (kn) (20) (K) (j) (u) (by first | assumption | omega | (clear ex hX; grind [uZ])) (by first | assumption | omega | (clear ex hX; grind [uZ]))) rfl rfl rfl gX3_write_X5_store_n43 hdX5_store (by decide +kernel) kX3_write_inX5 kX3_write_stX5_store ⟨Nat.le_of_ble_eq_true rfl, Nat.le_of_ble_eq_true rfl⟩ [1] [0, 2] rfl rfl (by decide) (by decide) (by decide) rfl (Nat.le_of_ble_eq_true rfl) ⟨Nat.le_of_ble_eq_true rfl, Nat.le_of_ble_eq_true rfl⟩ dX3_write_15 (fun u_2 h_2 => ?_)
  show Z G X 4 (0) (0) [(o, .inr (3, [.ref lt, .ref kn, .ref sg, .int (iI (n)), .int (iI (bd))])), (lt, zI G 20 (uZ F j v)), (kn, zI G 20 (uZ K j u))] 18 [(0, .ref o), (1, .int (iI (j))), (2, .int (iI (v))), (3, .int (iI (u)))] []
  exact ex _ _ () _ dX3_write_18 trivial rfl
theorem hX3_exchange_X3 : ∀ w ∈ wsX30, w ∈ wsX3_exchange := by decide +kernel
theorem hdX3_write : yX3_write.cls ≠ "java/lang/invoke/MethodHandle" ∧ yX3_write.cls ≠ "java/lang/invoke/VarHandle" ∧ (parseMethodDescriptor yX3_write.desc).map (fun d => d.parameters.length) = some 3 := by decide +kernel
theorem kX3_exchange_f15 : Cond.fieldLink RX3 15 "SignLetters$State" "kerns" "[I" ∈ wsX3_exchange := by decide +kernel
theorem kX3_exchange_f9 : Cond.fieldLink RX3 9 "SignLetters$State" "letters" "[I" ∈ wsX3_exchange := by decide +kernel
theorem kX3_exchange_inX5 : Cond.initialized RX5 ∈ wsX3_exchange := by decide +kernel
theorem kX3_exchange_stX5_valueAt : Cond.static yX5_valueAt ∈ wsX3_exchange := by decide +kernel
set_option maxHeartbeats 4000000 in
set_option maxRecDepth 100000 in
theorem mX3_exchange (G : ZG) (o : Nat) (lt : Nat) (kn : Nat) (sg : Nat) (n : Int) (bd : Int) (F : Int → Int) (K : Int → Int) (p : Int) (q : Int) (hp : 0 ≤ p ∧ p < 20) (hq : 0 ≤ q ∧ q < 20) : zMetv yX3_exchange wsX3_exchange { frames := 2, cells := 0, slots := 0, locals := 45 } G [.ref o, .int (iI (p)), .int (iI (q))] [(o, .inr (3, [.ref lt, .ref kn, .ref sg, .int (iI (n)), .int (iI (bd))])), (lt, zI G 20 (F)), (kn, zI G 20 (K))] (fun (uu : Unit) => True) (fun (uu : Unit) => [(o, .inr (3, [.ref lt, .ref kn, .ref sg, .int (iI (n)), .int (iI (bd))])), (lt, zI G 20 (uZ (uZ F p (F q)) q (F p))), (kn, zI G 20 (uZ (uZ K p (K q)) q (K p)))]) 0 0 := by
  refine z_metv (cc := cX3_exchange) (nL := 5) (by decide +kernel) rfl (Nat.le_of_ble_eq_true rfl) (fun X hX ex => ?_)
  have hX : ZOk G X 5 cX3_exchange RX3 wsX3_exchange { frames := 2, cells := 0, slots := 0, locals := 45 } := hX
  show Z G X 5 (0) (0) [(o, .inr (3, [.ref lt, .ref kn, .ref sg, .int (iI (n)), .int (iI (bd))])), (lt, zI G 20 (F)), (kn, zI G 20 (K))] 0 [(0, .ref o), (1, .int (iI (p))), (2, .int (iI (q)))] []
  refine z_aload_n (pc := 0) hX 0 rfl rfl dX3_exchange_0 ?_
  refine z_get (pc := 1) hX (T := TX3) (C := RX3) (N := 5) (i := 9) (ref := "SignLetters$State") (name := "letters") (desc := "[I") hX3_exchange_X3 0 rfl rfl 0 (by decide) kX3_exchange_f9 ⟨rfl, rfl, rfl⟩ (v := .ref lt) rfl dX3_exchange_1 ?_
  refine z_iload_n (pc := 4) hX 1 rfl rfl dX3_exchange_4 ?_
  refine z_callSN_i (pc := 5) (As := [.ref lt, .int (iI (p))]) (rest := []) (wc := [(lt, zI G 20 (F))]) (wr := [(o, .inr (3, [.ref lt, .ref kn, .ref sg, .int (iI (n)), .int (iI (bd))])), (kn, zI G 20 (K))]) hX (mX5_valueAt G (lt) (20) (F) (p) (by first | assumption | omega | (clear ex hX; grind [uZ])) (by first | assumption | omega | (clear ex hX; grind [uZ]))) rfl rfl rfl gX3_exchange_X5_valueAt_n39 hdX5_valueAt (by decide +kernel) kX3_exchange_inX5 kX3_exchange_stX5_valueAt ⟨Nat.le_of_ble_eq_true rfl, Nat.le_of_ble_eq_true rfl⟩ [1] [0, 2] rfl rfl (by decide) (by decide) (by decide) rfl (Nat.le_of_ble_eq_true rfl) ⟨Nat.le_of_ble_eq_true rfl, Nat.le_of_ble_eq_true rfl⟩ dX3_exchange_5 (fun r_1 u_1 h_1 => ?_)
  subst h_1
  show Z G X 5 (0) (0) [(o, .inr (3, [.ref lt, .ref kn, .ref sg, .int (iI (n)), .int (iI (bd))])), (kn, zI G 20 (K)), (lt, zI G 20 (F))] 8 [(0, .ref o), (1, .int (iI (p))), (2, .int (iI (q)))] [.int (iI (F p))]
  refine z_istore_n (pc := 8) hX (loc' := [(3, .int (iI (F p))), (0, .ref o), (1, .int (iI (p))), (2, .int (iI (q)))]) rfl (by decide) rfl dX3_exchange_8 ?_
  refine z_aload_n (pc := 9) hX 1 rfl rfl dX3_exchange_9 ?_
  refine z_get (pc := 10) hX (T := TX3) (C := RX3) (N := 5) (i := 15) (ref := "SignLetters$State") (name := "kerns") (desc := "[I") hX3_exchange_X3 0 rfl rfl 1 (by decide) kX3_exchange_f15 ⟨rfl, rfl, rfl⟩ (v := .ref kn) rfl dX3_exchange_10 ?_
  refine z_iload_n (pc := 13) hX 2 rfl rfl dX3_exchange_13 ?_
  refine z_callSN_i (pc := 14) (As := [.ref kn, .int (iI (p))]) (rest := []) (wc := [(kn, zI G 20 (K))]) (wr := [(o, .inr (3, [.ref lt, .ref kn, .ref sg, .int (iI (n)), .int (iI (bd))])), (lt, zI G 20 (F))]) hX (mX5_valueAt G (kn) (20) (K) (p) (by first | assumption | omega | (clear ex hX; grind [uZ])) (by first | assumption | omega | (clear ex hX; grind [uZ]))) rfl rfl rfl gX3_exchange_X5_valueAt_n39 hdX5_valueAt (by decide +kernel) kX3_exchange_inX5 kX3_exchange_stX5_valueAt ⟨Nat.le_of_ble_eq_true rfl, Nat.le_of_ble_eq_true rfl⟩ [1] [0, 2] rfl rfl (by decide) (by decide) (by decide) rfl (Nat.le_of_ble_eq_true rfl) ⟨Nat.le_of_ble_eq_true rfl, Nat.le_of_ble_eq_true rfl⟩ dX3_exchange_14 (fun r_2 u_2 h_2 => ?_)
  subst h_2
  show Z G X 5 (0) (0) [(o, .inr (3, [.ref lt, .ref kn, .ref sg, .int (iI (n)), .int (iI (bd))])), (lt, zI G 20 (F)), (kn, zI G 20 (K))] 17 [(3, .int (iI (F p))), (0, .ref o), (1, .int (iI (p))), (2, .int (iI (q)))] [.int (iI (K p))]
  refine z_istore (pc := 17) hX (loc' := [(4, .int (iI (K p))), (3, .int (iI (F p))), (0, .ref o), (1, .int (iI (p))), (2, .int (iI (q)))]) (by decide) rfl dX3_exchange_17 ?_
  refine z_aload_n (pc := 19) hX 2 rfl rfl dX3_exchange_19 ?_
  refine z_iload_n (pc := 20) hX 3 rfl rfl dX3_exchange_20 ?_
  refine z_aload_n (pc := 21) hX 2 rfl rfl dX3_exchange_21 ?_
  refine z_get (pc := 22) hX (T := TX3) (C := RX3) (N := 5) (i := 9) (ref := "SignLetters$State") (name := "letters") (desc := "[I") hX3_exchange_X3 0 rfl rfl 0 (by decide) kX3_exchange_f9 ⟨rfl, rfl, rfl⟩ (v := .ref lt) rfl dX3_exchange_22 ?_
  refine z_iload_n (pc := 25) hX 4 rfl rfl dX3_exchange_25 ?_
  refine z_callSN_i (pc := 26) (As := [.ref lt, .int (iI (q))]) (rest := [.int (iI (p)), .ref o]) (wc := [(lt, zI G 20 (F))]) (wr := [(o, .inr (3, [.ref lt, .ref kn, .ref sg, .int (iI (n)), .int (iI (bd))])), (kn, zI G 20 (K))]) hX (mX5_valueAt G (lt) (20) (F) (q) (by first | assumption | omega | (clear ex hX; grind [uZ])) (by first | assumption | omega | (clear ex hX; grind [uZ]))) rfl rfl rfl gX3_exchange_X5_valueAt_n39 hdX5_valueAt (by decide +kernel) kX3_exchange_inX5 kX3_exchange_stX5_valueAt ⟨Nat.le_of_ble_eq_true rfl, Nat.le_of_ble_eq_true rfl⟩ [1] [0, 2] rfl rfl (by decide) (by decide) (by decide) rfl (Nat.le_of_ble_eq_true rfl) ⟨Nat.le_of_ble_eq_true rfl, Nat.le_of_ble_eq_true rfl⟩ dX3_exchange_26 (fun r_3 u_3 h_3 => ?_)
  subst h_3
  show Z G X 5 (0) (0) [(o, .inr (3, [.ref lt, .ref kn, .ref sg, .int (iI (n)), .int (iI (bd))])), (kn, zI G 20 (K)), (lt, zI G 20 (F))] 29 [(4, .int (iI (K p))), (3, .int (iI (F p))), (0, .ref o), (1, .int (iI (p))), (2, .int (iI (q)))] [.int (iI (F q)), .int (iI (p)), .ref o]
  refine z_aload_n (pc := 29) hX 2 rfl rfl dX3_exchange_29 ?_
  refine z_get (pc := 30) hX (T := TX3) (C := RX3) (N := 5) (i := 15) (ref := "SignLetters$State") (name := "kerns") (desc := "[I") hX3_exchange_X3 0 rfl rfl 1 (by decide) kX3_exchange_f15 ⟨rfl, rfl, rfl⟩ (v := .ref kn) rfl dX3_exchange_30 ?_
  refine z_iload_n (pc := 33) hX 4 rfl rfl dX3_exchange_33 ?_
  refine z_callSN_i (pc := 34) (As := [.ref kn, .int (iI (q))]) (rest := [.int (iI (F q)), .int (iI (p)), .ref o]) (wc := [(kn, zI G 20 (K))]) (wr := [(o, .inr (3, [.ref lt, .ref kn, .ref sg, .int (iI (n)), .int (iI (bd))])), (lt, zI G 20 (F))]) hX (mX5_valueAt G (kn) (20) (K) (q) (by first | assumption | omega | (clear ex hX; grind [uZ])) (by first | assumption | omega | (clear ex hX; grind [uZ]))) rfl rfl rfl gX3_exchange_X5_valueAt_n39 hdX5_valueAt (by decide +kernel) kX3_exchange_inX5 kX3_exchange_stX5_valueAt ⟨Nat.le_of_ble_eq_true rfl, Nat.le_of_ble_eq_true rfl⟩ [1] [0, 2] rfl rfl (by decide) (by decide) (by decide) rfl (Nat.le_of_ble_eq_true rfl) ⟨Nat.le_of_ble_eq_true rfl, Nat.le_of_ble_eq_true rfl⟩ dX3_exchange_34 (fun r_4 u_4 h_4 => ?_)
  subst h_4
  show Z G X 5 (0) (0) [(o, .inr (3, [.ref lt, .ref kn, .ref sg, .int (iI (n)), .int (iI (bd))])), (lt, zI G 20 (F)), (kn, zI G 20 (K))] 37 [(4, .int (iI (K p))), (3, .int (iI (F p))), (0, .ref o), (1, .int (iI (p))), (2, .int (iI (q)))] [.int (iI (K q)), .int (iI (F q)), .int (iI (p)), .ref o]
  refine z_callV_v (pc := 37) (As := [.int (iI (p)), .int (iI (F q)), .int (iI (K q))]) (rest := []) (wc := [(o, .inr (3, [.ref lt, .ref kn, .ref sg, .int (iI (n)), .int (iI (bd))])), (lt, zI G 20 (F)), (kn, zI G 20 (K))]) (wr := []) hX (mX3_write G (o) (lt) (kn) (sg) (n) (bd) (F) (K) (p) (F q) (K q) (by first | assumption | omega | (clear ex hX; grind [uZ]))) rfl rfl rfl (C := RX3) gX3_exchange_X3_write ⟨rfl, hdX3_write⟩ (T := TX3) (N := 5) 0 rfl rfl ⟨Nat.le_of_ble_eq_true rfl, Nat.le_of_ble_eq_true rfl⟩ [0, 1, 2] [] rfl rfl (by decide) (by decide) (by decide) rfl (Nat.le_of_ble_eq_true rfl) ⟨Nat.le_of_ble_eq_true rfl, Nat.le_of_ble_eq_true rfl⟩ dX3_exchange_37 (fun u_5 h_5 => ?_)
  show Z G X 5 (0) (0) [(o, .inr (3, [.ref lt, .ref kn, .ref sg, .int (iI (n)), .int (iI (bd))])), (lt, zI G 20 (uZ F p (F q))), (kn, zI G 20 (uZ K p (K q)))] 40 [(4, .int (iI (K p))), (3, .int (iI (F p))), (0, .ref o), (1, .int (iI (p))), (2, .int (iI (q)))] []
  refine z_aload_n (pc := 40) hX 2 rfl rfl dX3_exchange_40 ?_
  refine z_iload_n (pc := 41) hX 4 rfl rfl dX3_exchange_41 ?_
  refine z_iload_n (pc := 42) hX 1 rfl rfl dX3_exchange_42 ?_
  refine z_iload (pc := 43) hX 0 rfl dX3_exchange_43 ?_
  refine z_callV_v (pc := 45) (As := [.int (iI (q)), .int (iI (F p)), .int (iI (K p))]) (rest := []) (wc := [(o, .inr (3, [.ref lt, .ref kn, .ref sg, .int (iI (n)), .int (iI (bd))])), (lt, zI G 20 ((uZ F p (F q)))), (kn, zI G 20 ((uZ K p (K q))))]) (wr := []) hX (mX3_write G (o) (lt) (kn) (sg) (n) (bd) (uZ F p (F q)) (uZ K p (K q)) (q) (F p) (K p) (by first | assumption | omega | (clear ex hX; grind [uZ]))) rfl rfl rfl (C := RX3) gX3_exchange_X3_write ⟨rfl, hdX3_write⟩ (T := TX3) (N := 5) 0 rfl rfl ⟨Nat.le_of_ble_eq_true rfl, Nat.le_of_ble_eq_true rfl⟩ [0, 1, 2] [] rfl rfl (by decide) (by decide) (by decide) rfl (Nat.le_of_ble_eq_true rfl) ⟨Nat.le_of_ble_eq_true rfl, Nat.le_of_ble_eq_true rfl⟩ dX3_exchange_45 (fun u_6 h_6 => ?_)
  show Z G X 5 (0) (0) [(o, .inr (3, [.ref lt, .ref kn, .ref sg, .int (iI (n)), .int (iI (bd))])), (lt, zI G 20 (uZ (uZ F p (F q)) q (F p))), (kn, zI G 20 (uZ (uZ K p (K q)) q (K p)))] 48 [(4, .int (iI (K p))), (3, .int (iI (F p))), (0, .ref o), (1, .int (iI (p))), (2, .int (iI (q)))] []
  exact ex _ _ () _ dX3_exchange_48 trivial rfl
theorem hX3_countLetters_X3 : ∀ w ∈ wsX30, w ∈ wsX3_countLetters := by decide +kernel
theorem hdX3_letterAt : yX3_letterAt.cls ≠ "java/lang/invoke/MethodHandle" ∧ yX3_letterAt.cls ≠ "java/lang/invoke/VarHandle" ∧ (parseMethodDescriptor yX3_letterAt.desc).map (fun d => d.parameters.length) = some 1 := by decide +kernel
theorem kX3_countLetters_f32 : Cond.fieldLink RX3 32 "SignLetters$State" "items" "I" ∈ wsX3_countLetters := by decide +kernel
set_option maxHeartbeats 4000000 in
set_option maxRecDepth 100000 in
theorem mX3_countLetters (G : ZG) (o : Nat) (lt : Nat) (kn : Nat) (sg : Nat) (n : Int) (bd : Int) (F : Int → Int) (hn : 0 ≤ n ∧ n ≤ 20) (hF : ∀ j : Int, 0 ≤ j → j < n → -1 ≤ F j ∧ F j < 26) : zMeti yX3_countLetters wsX3_countLetters { frames := 2, cells := 0, slots := 0, locals := 42 } G [.ref o] [(o, .inr (3, [.ref lt, .ref kn, .ref sg, .int (iI (n)), .int (iI (bd))])), (lt, zI G 20 (F))] (fun (rr : Int32) (uu : Unit) => rr = iI (sumZ (cntF F) n.toNat)) (fun (uu : Unit) => [(o, .inr (3, [.ref lt, .ref kn, .ref sg, .int (iI (n)), .int (iI (bd))])), (lt, zI G 20 (F))]) 0 0 := by
  refine z_meti (cc := cX3_countLetters) (nL := 3) (rt := .int) (by decide +kernel) rfl (Nat.le_of_ble_eq_true rfl) (fun X hX ex => ?_)
  have hX : ZOk G X 3 cX3_countLetters RX3 wsX3_countLetters { frames := 2, cells := 0, slots := 0, locals := 42 } := hX
  show Z G X 3 (0) (0) [(o, .inr (3, [.ref lt, .ref kn, .ref sg, .int (iI (n)), .int (iI (bd))])), (lt, zI G 20 (F))] 0 [(0, .ref o)] []
  refine z_iconst (pc := 0) hX dX3_countLetters_0 ?_
  refine z_istore_n (pc := 1) hX (loc' := [(1, .int (iI (0))), (0, .ref o)]) rfl (by decide) rfl dX3_countLetters_1 ?_
  refine z_iconst (pc := 2) hX dX3_countLetters_2 ?_
  refine z_istore_n (pc := 3) hX (loc' := [(2, .int (iI (0))), (1, .int (iI (0))), (0, .ref o)]) rfl (by decide) rfl dX3_countLetters_3 ?_
  have cut_4 : ∀ (fz : Nat) (i : Int) (c : Int) (h0 : 0 ≤ i) (h1 : i ≤ n) (hc : c = sumZ (cntF F) i.toNat) (hm_4 : n - i < (fz : Int)), Z G X 3 (0) (0) [(o, .inr (3, [.ref lt, .ref kn, .ref sg, .int (iI (n)), .int (iI (bd))])), (lt, zI G 20 (F))] 4 [(0, .ref o), (1, .int (iI (c))), (2, .int (iI (i)))] [] := by
    intro fz
    induction fz with
    | zero =>
      intro i c h0 h1 hc hm_4
      exfalso
      omega
    | succ fz ih =>
      intro i c h0 h1 hc hm_4
      have ih_4 := ih
      clear ih
      refine z_iload_n (pc := 4) hX 2 rfl rfl dX3_countLetters_4 ?_
      refine z_aload_n (pc := 5) hX 0 rfl rfl dX3_countLetters_5 ?_
      refine z_get (pc := 6) hX (T := TX3) (C := RX3) (N := 5) (i := 32) (ref := "SignLetters$State") (name := "items") (desc := "I") hX3_countLetters_X3 0 rfl rfl 3 (by decide) kX3_countLetters_f32 ⟨rfl, rfl, rfl⟩ (v := .int (iI (n))) rfl dX3_countLetters_6 ?_
      refine z_icmp_ge (pc := 9) (tgt := 30) hX (by decide) (by omega) (by omega) dX3_countLetters_9 (fun c_1 => ?_) (fun c_1 => ?_)
      · refine z_iload_n (pc := 30) hX 1 rfl rfl dX3_countLetters_30 ?_
        exact ex _ _ _ () _ dX3_countLetters_31 rfl (congrArg iI (show (c : Int) = sumZ (cntF F) n.toNat from by first | rfl | omega | (clear ex hX; grind [uZ]))) rfl
      · have hFi := hF i h0 (by omega)
        have hle : letA F n i = F i := by unfold letA; grind
        refine z_aload_n (pc := 12) hX 0 rfl rfl dX3_countLetters_12 ?_
        refine z_iload_n (pc := 13) hX 2 rfl rfl dX3_countLetters_13 ?_
        refine z_callV_i (pc := 14) (As := [.int (iI (i))]) (rest := []) (wc := [(o, .inr (3, [.ref lt, .ref kn, .ref sg, .int (iI (n)), .int (iI (bd))])), (lt, zI G 20 (F))]) (wr := []) hX (mX3_letterAt G (o) (lt) (kn) (sg) (n) (bd) (F) (i) (by first | assumption | omega | (clear ex hX; grind [uZ])) (by first | assumption | omega | (clear ex hX; grind [uZ]))) rfl rfl rfl (C := RX3) gX3_countLetters_X3_letterAt ⟨rfl, hdX3_letterAt⟩ (T := TX3) (N := 5) 0 rfl rfl ⟨Nat.le_of_ble_eq_true rfl, Nat.le_of_ble_eq_true rfl⟩ [0, 1] [] rfl rfl (by decide) (by decide) (by decide) rfl (Nat.le_of_ble_eq_true rfl) ⟨Nat.le_of_ble_eq_true rfl, Nat.le_of_ble_eq_true rfl⟩ dX3_countLetters_14 (fun r_2 u_2 h_2 => ?_)
        subst h_2
        show Z G X 3 (0) (0) [(o, .inr (3, [.ref lt, .ref kn, .ref sg, .int (iI (n)), .int (iI (bd))])), (lt, zI G 20 (F))] 17 [(0, .ref o), (1, .int (iI (c))), (2, .int (iI (i)))] [.int (iI (letA F n i))]
        refine z_iconst (pc := 17) hX dX3_countLetters_17 ?_
        refine z_icmp_eq (pc := 18) (tgt := 24) hX (by decide) (by omega) (by omega) dX3_countLetters_18 (fun c_3 => ?_) (fun c_3 => ?_)
        · refine z_iinc (pc := 24) hX (loc' := [(2, .int (iI (i + 1))), (0, .ref o), (1, .int (iI (c)))]) 2 rfl (by decide) rfl dX3_countLetters_24 ?_
          refine z_goto (pc := 27) (tgt := 4) hX (by decide) dX3_countLetters_27 ?_
          refine z_at [1, 2, 0] [0, 1] (loc' := [(0, .ref o), (1, .int (iI (c))), (2, .int (iI ((i + 1))))]) (WS' := [(o, .inr (3, [.ref lt, .ref kn, .ref sg, .int (iI (n)), .int (iI (bd))])), (lt, zI G 20 (F))]) rfl (by decide) rfl ?_
          exact ih_4 (i + 1) (c) (by first | assumption | omega | (clear ex hX; grind [uZ])) (by first | assumption | omega | (clear ex hX; grind [uZ])) (by first | (rw [sumZ_s _ h0, hc]; unfold cntF letA at *; grind) | (rw [sumZ_s _ h0, hc]; unfold cntF; unfold letA at *; grind)) (by omega)
        · refine z_iinc (pc := 21) hX (loc' := [(1, .int (iI (c + 1))), (0, .ref o), (2, .int (iI (i)))]) 1 rfl (by decide) rfl dX3_countLetters_21 ?_
          refine z_iinc (pc := 24) hX (loc' := [(2, .int (iI (i + 1))), (1, .int (iI (c + 1))), (0, .ref o)]) 2 rfl (by decide) rfl dX3_countLetters_24 ?_
          refine z_goto (pc := 27) (tgt := 4) hX (by decide) dX3_countLetters_27 ?_
          refine z_at [2, 1, 0] [0, 1] (loc' := [(0, .ref o), (1, .int (iI ((c + 1)))), (2, .int (iI ((i + 1))))]) (WS' := [(o, .inr (3, [.ref lt, .ref kn, .ref sg, .int (iI (n)), .int (iI (bd))])), (lt, zI G 20 (F))]) rfl (by decide) rfl ?_
          exact ih_4 (i + 1) (c + 1) (by first | assumption | omega | (clear ex hX; grind [uZ])) (by first | assumption | omega | (clear ex hX; grind [uZ])) (by first | (rw [sumZ_s _ h0, hc]; unfold cntF letA at *; grind) | (rw [sumZ_s _ h0, hc]; unfold cntF; unfold letA at *; grind)) (by omega)
  refine z_at [2, 1, 0] [0, 1] (loc' := [(0, .ref o), (1, .int (iI (0))), (2, .int (iI (0)))]) (WS' := [(o, .inr (3, [.ref lt, .ref kn, .ref sg, .int (iI (n)), .int (iI (bd))])), (lt, zI G 20 (F))]) rfl (by decide) rfl ?_
  exact cut_4 (Int.toNat (n - 0) + 1) (0) (0) (by first | assumption | omega | (clear ex hX; grind [uZ])) (by first | assumption | omega | (clear ex hX; grind [uZ])) (by rfl) (by omega)
theorem hX3_insert_X3 : ∀ w ∈ wsX30, w ∈ wsX3_insert := by decide +kernel
theorem kX3_insert_f15 : Cond.fieldLink RX3 15 "SignLetters$State" "kerns" "[I" ∈ wsX3_insert := by decide +kernel
theorem kX3_insert_f32 : Cond.fieldLink RX3 32 "SignLetters$State" "items" "I" ∈ wsX3_insert := by decide +kernel
theorem kX3_insert_f9 : Cond.fieldLink RX3 9 "SignLetters$State" "letters" "[I" ∈ wsX3_insert := by decide +kernel
theorem kX3_insert_inX5 : Cond.initialized RX5 ∈ wsX3_insert := by decide +kernel
theorem kX3_insert_stX5_valueAt : Cond.static yX5_valueAt ∈ wsX3_insert := by decide +kernel
set_option maxHeartbeats 4000000 in
set_option maxRecDepth 100000 in
theorem mX3_insert (G : ZG) (o : Nat) (lt : Nat) (kn : Nat) (sg : Nat) (n : Int) (bd : Int) (F : Int → Int) (K : Int → Int) (p : Int) (v : Int) (hn : 0 ≤ n ∧ n < 20) (hp : 0 ≤ p ∧ p ≤ n) : zMetv yX3_insert wsX3_insert { frames := 2, cells := 0, slots := 0, locals := 45 } G [.ref o, .int (iI (p)), .int (iI (v))] [(o, .inr (3, [.ref lt, .ref kn, .ref sg, .int (iI (n)), .int (iI (bd))])), (lt, zI G 20 (F)), (kn, zI G 20 (K))] (fun (uu : Unit) => True) (fun (uu : Unit) => [(o, .inr (3, [.ref lt, .ref kn, .ref sg, .int (iI (n + 1)), .int (iI (bd))])), (lt, zI G 20 (insZ F p n v)), (kn, zI G 20 (insZ K p n 0))]) 0 0 := by
  refine z_metv (cc := cX3_insert) (nL := 4) (by decide +kernel) rfl (Nat.le_of_ble_eq_true rfl) (fun X hX ex => ?_)
  have hX : ZOk G X 4 cX3_insert RX3 wsX3_insert { frames := 2, cells := 0, slots := 0, locals := 45 } := hX
  show Z G X 4 (0) (0) [(o, .inr (3, [.ref lt, .ref kn, .ref sg, .int (iI (n)), .int (iI (bd))])), (lt, zI G 20 (F)), (kn, zI G 20 (K))] 0 [(0, .ref o), (1, .int (iI (p))), (2, .int (iI (v)))] []
  refine z_aload_n (pc := 0) hX 0 rfl rfl dX3_insert_0 ?_
  refine z_get (pc := 1) hX (T := TX3) (C := RX3) (N := 5) (i := 32) (ref := "SignLetters$State") (name := "items") (desc := "I") hX3_insert_X3 0 rfl rfl 3 (by decide) kX3_insert_f32 ⟨rfl, rfl, rfl⟩ (v := .int (iI (n))) rfl dX3_insert_1 ?_
  refine z_istore_n (pc := 4) hX (loc' := [(3, .int (iI (n))), (0, .ref o), (1, .int (iI (p))), (2, .int (iI (v)))]) rfl (by decide) rfl dX3_insert_4 ?_
  have cut_5 : ∀ (fz : Nat) (i : Int) (F1 : Int → Int) (K1 : Int → Int) (h0 : p ≤ i) (h1 : i ≤ n) (hF1 : ∀ j : Int, F1 j = if i < j ∧ j ≤ n then F (j - 1) else F j) (hK1 : ∀ j : Int, K1 j = if i < j ∧ j ≤ n then K (j - 1) else K j) (hm_5 : i - p < (fz : Int)), Z G X 4 (0) (0) [(o, .inr (3, [.ref lt, .ref kn, .ref sg, .int (iI (n)), .int (iI (bd))])), (lt, zI G 20 (F1)), (kn, zI G 20 (K1))] 5 [(0, .ref o), (1, .int (iI (p))), (2, .int (iI (v))), (3, .int (iI (i)))] [] := by
    intro fz
    induction fz with
    | zero =>
      intro i F1 K1 h0 h1 hF1 hK1 hm_5
      exfalso
      omega
    | succ fz ih =>
      intro i F1 K1 h0 h1 hF1 hK1 hm_5
      have ih_5 := ih
      clear ih
      refine z_iload_n (pc := 5) hX 3 rfl rfl dX3_insert_5 ?_
      refine z_iload_n (pc := 6) hX 1 rfl rfl dX3_insert_6 ?_
      refine z_icmp_le (pc := 7) (tgt := 41) hX (by decide) (by omega) (by omega) dX3_insert_7 (fun c_1 => ?_) (fun c_1 => ?_)
      · refine z_aload_n (pc := 41) hX 0 rfl rfl dX3_insert_41 ?_
        refine z_iload_n (pc := 42) hX 1 rfl rfl dX3_insert_42 ?_
        refine z_iload_n (pc := 43) hX 2 rfl rfl dX3_insert_43 ?_
        refine z_iconst (pc := 44) hX dX3_insert_44 ?_
        refine z_callV_v (pc := 45) (As := [.int (iI (p)), .int (iI (v)), .int (iI (0))]) (rest := []) (wc := [(o, .inr (3, [.ref lt, .ref kn, .ref sg, .int (iI (n)), .int (iI (bd))])), (lt, zI G 20 (F1)), (kn, zI G 20 (K1))]) (wr := []) hX (mX3_write G (o) (lt) (kn) (sg) (n) (bd) (F1) (K1) (p) (v) (0) (by first | assumption | omega | (clear ex hX; grind [uZ]))) rfl rfl rfl (C := RX3) gX3_insert_X3_write ⟨rfl, hdX3_write⟩ (T := TX3) (N := 5) 0 rfl rfl ⟨Nat.le_of_ble_eq_true rfl, Nat.le_of_ble_eq_true rfl⟩ [0, 1, 2] [] rfl rfl (by decide) (by decide) (by decide) rfl (Nat.le_of_ble_eq_true rfl) ⟨Nat.le_of_ble_eq_true rfl, Nat.le_of_ble_eq_true rfl⟩ dX3_insert_45 (fun u_2 h_2 => ?_)
        show Z G X 4 (0) (0) [(o, .inr (3, [.ref lt, .ref kn, .ref sg, .int (iI (n)), .int (iI (bd))])), (lt, zI G 20 (uZ F1 p v)), (kn, zI G 20 (uZ K1 p 0))] 48 [(0, .ref o), (1, .int (iI (p))), (2, .int (iI (v))), (3, .int (iI (i)))] []
        refine z_aload_n (pc := 48) hX 0 rfl rfl dX3_insert_48 ?_
        refine z_dup (pc := 49) hX rfl dX3_insert_49 ?_
        refine z_get (pc := 50) hX (T := TX3) (C := RX3) (N := 5) (i := 32) (ref := "SignLetters$State") (name := "items") (desc := "I") hX3_insert_X3 0 rfl rfl 3 (by decide) kX3_insert_f32 ⟨rfl, rfl, rfl⟩ (v := .int (iI (n))) rfl dX3_insert_50 ?_
        refine z_iconst (pc := 53) hX dX3_insert_53 ?_
        refine z_iadd (pc := 54) hX dX3_insert_54 ?_
        refine z_put (pc := 55) hX (T := TX3) (C := RX3) (N := 5) (i := 32) (ref := "SignLetters$State") (name := "items") (desc := "I") (WS' := [(o, .inr (3, [.ref lt, .ref kn, .ref sg, .int (iI (n + 1)), .int (iI (bd))])), (lt, zI G 20 (uZ F1 p v)), (kn, zI G 20 (uZ K1 p 0))]) tyX3 tyX3_ok nmX3 hX3_insert_X3 0 rfl rfl 3 (by decide) kX3_insert_f32 ⟨rfl, rfl, rfl⟩ rfl (ty := .int) (by decide +kernel) rfl rfl (Nat.le_of_ble_eq_true rfl) rfl dX3_insert_55 ?_
        refine z_arrX (N := 20) (F := uZ F1 p v) (F1 := insZ F p n v) (WS1 := [(o, .inr (3, [.ref lt, .ref kn, .ref sg, .int (iI (n + 1)), .int (iI (bd))])), (lt, zI G 20 (insZ F p n v)), (kn, zI G 20 (uZ K1 p 0))]) 1 rfl (fun j hj0 hj1 => by have := hF1 j; grind [uZ, insZ]) rfl ?_
        refine z_arrX (N := 20) (F := uZ K1 p 0) (F1 := insZ K p n 0) (WS1 := [(o, .inr (3, [.ref lt, .ref kn, .ref sg, .int (iI (n + 1)), .int (iI (bd))])), (lt, zI G 20 (insZ F p n v)), (kn, zI G 20 (insZ K p n 0))]) 2 rfl (fun j hj0 hj1 => by have := hK1 j; grind [uZ, insZ]) rfl ?_
        exact ex _ _ () _ dX3_insert_58 trivial rfl
      · refine z_aload_n (pc := 10) hX 0 rfl rfl dX3_insert_10 ?_
        refine z_iload_n (pc := 11) hX 3 rfl rfl dX3_insert_11 ?_
        refine z_aload_n (pc := 12) hX 0 rfl rfl dX3_insert_12 ?_
        refine z_get (pc := 13) hX (T := TX3) (C := RX3) (N := 5) (i := 9) (ref := "SignLetters$State") (name := "letters") (desc := "[I") hX3_insert_X3 0 rfl rfl 0 (by decide) kX3_insert_f9 ⟨rfl, rfl, rfl⟩ (v := .ref lt) rfl dX3_insert_13 ?_
        refine z_iload_n (pc := 16) hX 3 rfl rfl dX3_insert_16 ?_
        refine z_iconst (pc := 17) hX dX3_insert_17 ?_
        refine z_isub (pc := 18) hX dX3_insert_18 ?_
        refine z_callSN_i (pc := 19) (As := [.ref lt, .int (iI (i - 1))]) (rest := [.int (iI (i)), .ref o]) (wc := [(lt, zI G 20 (F1))]) (wr := [(o, .inr (3, [.ref lt, .ref kn, .ref sg, .int (iI (n)), .int (iI (bd))])), (kn, zI G 20 (K1))]) hX (mX5_valueAt G (lt) (20) (F1) (i - 1) (by first | assumption | omega | (clear ex hX; grind [uZ])) (by first | assumption | omega | (clear ex hX; grind [uZ]))) rfl rfl rfl gX3_insert_X5_valueAt_n39 hdX5_valueAt (by decide +kernel) kX3_insert_inX5 kX3_insert_stX5_valueAt ⟨Nat.le_of_ble_eq_true rfl, Nat.le_of_ble_eq_true rfl⟩ [1] [0, 2] rfl rfl (by decide) (by decide) (by decide) rfl (Nat.le_of_ble_eq_true rfl) ⟨Nat.le_of_ble_eq_true rfl, Nat.le_of_ble_eq_true rfl⟩ dX3_insert_19 (fun r_3 u_3 h_3 => ?_)
        subst h_3
        show Z G X 4 (0) (0) [(o, .inr (3, [.ref lt, .ref kn, .ref sg, .int (iI (n)), .int (iI (bd))])), (kn, zI G 20 (K1)), (lt, zI G 20 (F1))] 22 [(0, .ref o), (1, .int (iI (p))), (2, .int (iI (v))), (3, .int (iI (i)))] [.int (iI (F1 (i - 1))), .int (iI (i)), .ref o]
        refine z_aload_n (pc := 22) hX 0 rfl rfl dX3_insert_22 ?_
        refine z_get (pc := 23) hX (T := TX3) (C := RX3) (N := 5) (i := 15) (ref := "SignLetters$State") (name := "kerns") (desc := "[I") hX3_insert_X3 0 rfl rfl 1 (by decide) kX3_insert_f15 ⟨rfl, rfl, rfl⟩ (v := .ref kn) rfl dX3_insert_23 ?_
        refine z_iload_n (pc := 26) hX 3 rfl rfl dX3_insert_26 ?_
        refine z_iconst (pc := 27) hX dX3_insert_27 ?_
        refine z_isub (pc := 28) hX dX3_insert_28 ?_
        refine z_callSN_i (pc := 29) (As := [.ref kn, .int (iI (i - 1))]) (rest := [.int (iI (F1 (i - 1))), .int (iI (i)), .ref o]) (wc := [(kn, zI G 20 (K1))]) (wr := [(o, .inr (3, [.ref lt, .ref kn, .ref sg, .int (iI (n)), .int (iI (bd))])), (lt, zI G 20 (F1))]) hX (mX5_valueAt G (kn) (20) (K1) (i - 1) (by first | assumption | omega | (clear ex hX; grind [uZ])) (by first | assumption | omega | (clear ex hX; grind [uZ]))) rfl rfl rfl gX3_insert_X5_valueAt_n39 hdX5_valueAt (by decide +kernel) kX3_insert_inX5 kX3_insert_stX5_valueAt ⟨Nat.le_of_ble_eq_true rfl, Nat.le_of_ble_eq_true rfl⟩ [1] [0, 2] rfl rfl (by decide) (by decide) (by decide) rfl (Nat.le_of_ble_eq_true rfl) ⟨Nat.le_of_ble_eq_true rfl, Nat.le_of_ble_eq_true rfl⟩ dX3_insert_29 (fun r_4 u_4 h_4 => ?_)
        subst h_4
        show Z G X 4 (0) (0) [(o, .inr (3, [.ref lt, .ref kn, .ref sg, .int (iI (n)), .int (iI (bd))])), (lt, zI G 20 (F1)), (kn, zI G 20 (K1))] 32 [(0, .ref o), (1, .int (iI (p))), (2, .int (iI (v))), (3, .int (iI (i)))] [.int (iI (K1 (i - 1))), .int (iI (F1 (i - 1))), .int (iI (i)), .ref o]
        refine z_callV_v (pc := 32) (As := [.int (iI (i)), .int (iI (F1 (i - 1))), .int (iI (K1 (i - 1)))]) (rest := []) (wc := [(o, .inr (3, [.ref lt, .ref kn, .ref sg, .int (iI (n)), .int (iI (bd))])), (lt, zI G 20 (F1)), (kn, zI G 20 (K1))]) (wr := []) hX (mX3_write G (o) (lt) (kn) (sg) (n) (bd) (F1) (K1) (i) (F1 (i - 1)) (K1 (i - 1)) (by first | assumption | omega | (clear ex hX; grind [uZ]))) rfl rfl rfl (C := RX3) gX3_insert_X3_write ⟨rfl, hdX3_write⟩ (T := TX3) (N := 5) 0 rfl rfl ⟨Nat.le_of_ble_eq_true rfl, Nat.le_of_ble_eq_true rfl⟩ [0, 1, 2] [] rfl rfl (by decide) (by decide) (by decide) rfl (Nat.le_of_ble_eq_true rfl) ⟨Nat.le_of_ble_eq_true rfl, Nat.le_of_ble_eq_true rfl⟩ dX3_insert_32 (fun u_5 h_5 => ?_)
        show Z G X 4 (0) (0) [(o, .inr (3, [.ref lt, .ref kn, .ref sg, .int (iI (n)), .int (iI (bd))])), (lt, zI G 20 (uZ F1 i (F1 (i - 1)))), (kn, zI G 20 (uZ K1 i (K1 (i - 1))))] 35 [(0, .ref o), (1, .int (iI (p))), (2, .int (iI (v))), (3, .int (iI (i)))] []
        refine z_iinc (pc := 35) hX (loc' := [(3, .int (iI (i + (-1)))), (0, .ref o), (1, .int (iI (p))), (2, .int (iI (v)))]) 3 rfl (by decide) rfl dX3_insert_35 ?_
        refine z_goto (pc := 38) (tgt := 5) hX (by decide) dX3_insert_38 ?_
        refine z_at [1, 2, 3, 0] [0, 1, 2] (loc' := [(0, .ref o), (1, .int (iI (p))), (2, .int (iI (v))), (3, .int (iI ((i + (-1)))))]) (WS' := [(o, .inr (3, [.ref lt, .ref kn, .ref sg, .int (iI (n)), .int (iI (bd))])), (lt, zI G 20 ((uZ F1 i (F1 (i - 1))))), (kn, zI G 20 ((uZ K1 i (K1 (i - 1)))))]) rfl (by decide) rfl ?_
        exact ih_5 (i + (-1)) (uZ F1 i (F1 (i - 1))) (uZ K1 i (K1 (i - 1))) (by first | assumption | omega | (clear ex hX; grind [uZ])) (by first | assumption | omega | (clear ex hX; grind [uZ])) (by intro j; have := hF1 j; have := hF1 (i - 1); grind [uZ]) (by intro j; have := hK1 j; have := hK1 (i - 1); grind [uZ]) (by omega)
  refine z_at [1, 2, 3, 0] [0, 1, 2] (loc' := [(0, .ref o), (1, .int (iI (p))), (2, .int (iI (v))), (3, .int (iI (n)))]) (WS' := [(o, .inr (3, [.ref lt, .ref kn, .ref sg, .int (iI (n)), .int (iI (bd))])), (lt, zI G 20 (F)), (kn, zI G 20 (K))]) rfl (by decide) rfl ?_
  exact cut_5 (Int.toNat (n - p) + 1) (n) (F) (K) (by first | assumption | omega | (clear ex hX; grind [uZ])) (by first | assumption | omega | (clear ex hX; grind [uZ])) (by intro j; grind) (by intro j; grind) (by omega)
theorem hX3_remove_X3 : ∀ w ∈ wsX30, w ∈ wsX3_remove := by decide +kernel
theorem kX3_remove_f15 : Cond.fieldLink RX3 15 "SignLetters$State" "kerns" "[I" ∈ wsX3_remove := by decide +kernel
theorem kX3_remove_f32 : Cond.fieldLink RX3 32 "SignLetters$State" "items" "I" ∈ wsX3_remove := by decide +kernel
theorem kX3_remove_f9 : Cond.fieldLink RX3 9 "SignLetters$State" "letters" "[I" ∈ wsX3_remove := by decide +kernel
theorem kX3_remove_inX5 : Cond.initialized RX5 ∈ wsX3_remove := by decide +kernel
theorem kX3_remove_stX5_valueAt : Cond.static yX5_valueAt ∈ wsX3_remove := by decide +kernel
set_option maxHeartbeats 4000000 in
set_option maxRecDepth 100000 in
theorem mX3_remove (G : ZG) (o : Nat) (lt : Nat) (kn : Nat) (sg : Nat) (n : Int) (bd : Int) (F : Int → Int) (K : Int → Int) (p : Int) (hn : 0 ≤ n ∧ n ≤ 20) (hp : 0 ≤ p ∧ p < n) : zMetv yX3_remove wsX3_remove { frames := 2, cells := 0, slots := 0, locals := 45 } G [.ref o, .int (iI (p))] [(o, .inr (3, [.ref lt, .ref kn, .ref sg, .int (iI (n)), .int (iI (bd))])), (lt, zI G 20 (F)), (kn, zI G 20 (K))] (fun (uu : Unit) => True) (fun (uu : Unit) => [(o, .inr (3, [.ref lt, .ref kn, .ref sg, .int (iI (n - 1)), .int (iI (bd))])), (lt, zI G 20 (remZ F p n)), (kn, zI G 20 (remZ K p n))]) 0 0 := by
  refine z_metv (cc := cX3_remove) (nL := 3) (by decide +kernel) rfl (Nat.le_of_ble_eq_true rfl) (fun X hX ex => ?_)
  have hX : ZOk G X 3 cX3_remove RX3 wsX3_remove { frames := 2, cells := 0, slots := 0, locals := 45 } := hX
  show Z G X 3 (0) (0) [(o, .inr (3, [.ref lt, .ref kn, .ref sg, .int (iI (n)), .int (iI (bd))])), (lt, zI G 20 (F)), (kn, zI G 20 (K))] 0 [(0, .ref o), (1, .int (iI (p)))] []
  refine z_iload_n (pc := 0) hX 1 rfl rfl dX3_remove_0 ?_
  refine z_istore_n (pc := 1) hX (loc' := [(2, .int (iI (p))), (0, .ref o), (1, .int (iI (p)))]) rfl (by decide) rfl dX3_remove_1 ?_
  have cut_2 : ∀ (fz : Nat) (i : Int) (F1 : Int → Int) (K1 : Int → Int) (h0 : p ≤ i) (h1 : i < n) (hF1 : ∀ j : Int, F1 j = if p ≤ j ∧ j < i then F (j + 1) else F j) (hK1 : ∀ j : Int, K1 j = if p ≤ j ∧ j < i then K (j + 1) else K j) (hm_2 : n - i < (fz : Int)), Z G X 3 (0) (0) [(o, .inr (3, [.ref lt, .ref kn, .ref sg, .int (iI (n)), .int (iI (bd))])), (lt, zI G 20 (F1)), (kn, zI G 20 (K1))] 2 [(0, .ref o), (1, .int (iI (p))), (2, .int (iI (i)))] [] := by
    intro fz
    induction fz with
    | zero =>
      intro i F1 K1 h0 h1 hF1 hK1 hm_2
      exfalso
      omega
    | succ fz ih =>
      intro i F1 K1 h0 h1 hF1 hK1 hm_2
      have ih_2 := ih
      clear ih
      refine z_iload_n (pc := 2) hX 2 rfl rfl dX3_remove_2 ?_
      refine z_aload_n (pc := 3) hX 0 rfl rfl dX3_remove_3 ?_
      refine z_get (pc := 4) hX (T := TX3) (C := RX3) (N := 5) (i := 32) (ref := "SignLetters$State") (name := "items") (desc := "I") hX3_remove_X3 0 rfl rfl 3 (by decide) kX3_remove_f32 ⟨rfl, rfl, rfl⟩ (v := .int (iI (n))) rfl dX3_remove_4 ?_
      refine z_iconst (pc := 7) hX dX3_remove_7 ?_
      refine z_isub (pc := 8) hX dX3_remove_8 ?_
      refine z_icmp_ge (pc := 9) (tgt := 43) hX (by decide) (by omega) (by omega) dX3_remove_9 (fun c_1 => ?_) (fun c_1 => ?_)
      · refine z_aload_n (pc := 43) hX 0 rfl rfl dX3_remove_43 ?_
        refine z_dup (pc := 44) hX rfl dX3_remove_44 ?_
        refine z_get (pc := 45) hX (T := TX3) (C := RX3) (N := 5) (i := 32) (ref := "SignLetters$State") (name := "items") (desc := "I") hX3_remove_X3 0 rfl rfl 3 (by decide) kX3_remove_f32 ⟨rfl, rfl, rfl⟩ (v := .int (iI (n))) rfl dX3_remove_45 ?_
        refine z_iconst (pc := 48) hX dX3_remove_48 ?_
        refine z_isub (pc := 49) hX dX3_remove_49 ?_
        refine z_put (pc := 50) hX (T := TX3) (C := RX3) (N := 5) (i := 32) (ref := "SignLetters$State") (name := "items") (desc := "I") (WS' := [(o, .inr (3, [.ref lt, .ref kn, .ref sg, .int (iI (n - 1)), .int (iI (bd))])), (lt, zI G 20 (F1)), (kn, zI G 20 (K1))]) tyX3 tyX3_ok nmX3 hX3_remove_X3 0 rfl rfl 3 (by decide) kX3_remove_f32 ⟨rfl, rfl, rfl⟩ rfl (ty := .int) (by decide +kernel) rfl rfl (Nat.le_of_ble_eq_true rfl) rfl dX3_remove_50 ?_
        refine z_arrX (N := 20) (F := F1) (F1 := remZ F p n) (WS1 := [(o, .inr (3, [.ref lt, .ref kn, .ref sg, .int (iI (n - 1)), .int (iI (bd))])), (lt, zI G 20 (remZ F p n)), (kn, zI G 20 (K1))]) 1 rfl (fun j hj0 hj1 => by have := hF1 j; grind [remZ]) rfl ?_
        refine z_arrX (N := 20) (F := K1) (F1 := remZ K p n) (WS1 := [(o, .inr (3, [.ref lt, .ref kn, .ref sg, .int (iI (n - 1)), .int (iI (bd))])), (lt, zI G 20 (remZ F p n)), (kn, zI G 20 (remZ K p n))]) 2 rfl (fun j hj0 hj1 => by have := hK1 j; grind [remZ]) rfl ?_
        exact ex _ _ () _ dX3_remove_53 trivial rfl
      · refine z_aload_n (pc := 12) hX 0 rfl rfl dX3_remove_12 ?_
        refine z_iload_n (pc := 13) hX 2 rfl rfl dX3_remove_13 ?_
        refine z_aload_n (pc := 14) hX 0 rfl rfl dX3_remove_14 ?_
        refine z_get (pc := 15) hX (T := TX3) (C := RX3) (N := 5) (i := 9) (ref := "SignLetters$State") (name := "letters") (desc := "[I") hX3_remove_X3 0 rfl rfl 0 (by decide) kX3_remove_f9 ⟨rfl, rfl, rfl⟩ (v := .ref lt) rfl dX3_remove_15 ?_
        refine z_iload_n (pc := 18) hX 2 rfl rfl dX3_remove_18 ?_
        refine z_iconst (pc := 19) hX dX3_remove_19 ?_
        refine z_iadd (pc := 20) hX dX3_remove_20 ?_
        refine z_callSN_i (pc := 21) (As := [.ref lt, .int (iI (i + 1))]) (rest := [.int (iI (i)), .ref o]) (wc := [(lt, zI G 20 (F1))]) (wr := [(o, .inr (3, [.ref lt, .ref kn, .ref sg, .int (iI (n)), .int (iI (bd))])), (kn, zI G 20 (K1))]) hX (mX5_valueAt G (lt) (20) (F1) (i + 1) (by first | assumption | omega | (clear ex hX; grind [uZ])) (by first | assumption | omega | (clear ex hX; grind [uZ]))) rfl rfl rfl gX3_remove_X5_valueAt_n39 hdX5_valueAt (by decide +kernel) kX3_remove_inX5 kX3_remove_stX5_valueAt ⟨Nat.le_of_ble_eq_true rfl, Nat.le_of_ble_eq_true rfl⟩ [1] [0, 2] rfl rfl (by decide) (by decide) (by decide) rfl (Nat.le_of_ble_eq_true rfl) ⟨Nat.le_of_ble_eq_true rfl, Nat.le_of_ble_eq_true rfl⟩ dX3_remove_21 (fun r_2 u_2 h_2 => ?_)
        subst h_2
        show Z G X 3 (0) (0) [(o, .inr (3, [.ref lt, .ref kn, .ref sg, .int (iI (n)), .int (iI (bd))])), (kn, zI G 20 (K1)), (lt, zI G 20 (F1))] 24 [(0, .ref o), (1, .int (iI (p))), (2, .int (iI (i)))] [.int (iI (F1 (i + 1))), .int (iI (i)), .ref o]
        refine z_aload_n (pc := 24) hX 0 rfl rfl dX3_remove_24 ?_
        refine z_get (pc := 25) hX (T := TX3) (C := RX3) (N := 5) (i := 15) (ref := "SignLetters$State") (name := "kerns") (desc := "[I") hX3_remove_X3 0 rfl rfl 1 (by decide) kX3_remove_f15 ⟨rfl, rfl, rfl⟩ (v := .ref kn) rfl dX3_remove_25 ?_
        refine z_iload_n (pc := 28) hX 2 rfl rfl dX3_remove_28 ?_
        refine z_iconst (pc := 29) hX dX3_remove_29 ?_
        refine z_iadd (pc := 30) hX dX3_remove_30 ?_
        refine z_callSN_i (pc := 31) (As := [.ref kn, .int (iI (i + 1))]) (rest := [.int (iI (F1 (i + 1))), .int (iI (i)), .ref o]) (wc := [(kn, zI G 20 (K1))]) (wr := [(o, .inr (3, [.ref lt, .ref kn, .ref sg, .int (iI (n)), .int (iI (bd))])), (lt, zI G 20 (F1))]) hX (mX5_valueAt G (kn) (20) (K1) (i + 1) (by first | assumption | omega | (clear ex hX; grind [uZ])) (by first | assumption | omega | (clear ex hX; grind [uZ]))) rfl rfl rfl gX3_remove_X5_valueAt_n39 hdX5_valueAt (by decide +kernel) kX3_remove_inX5 kX3_remove_stX5_valueAt ⟨Nat.le_of_ble_eq_true rfl, Nat.le_of_ble_eq_true rfl⟩ [1] [0, 2] rfl rfl (by decide) (by decide) (by decide) rfl (Nat.le_of_ble_eq_true rfl) ⟨Nat.le_of_ble_eq_true rfl, Nat.le_of_ble_eq_true rfl⟩ dX3_remove_31 (fun r_3 u_3 h_3 => ?_)
        subst h_3
        show Z G X 3 (0) (0) [(o, .inr (3, [.ref lt, .ref kn, .ref sg, .int (iI (n)), .int (iI (bd))])), (lt, zI G 20 (F1)), (kn, zI G 20 (K1))] 34 [(0, .ref o), (1, .int (iI (p))), (2, .int (iI (i)))] [.int (iI (K1 (i + 1))), .int (iI (F1 (i + 1))), .int (iI (i)), .ref o]
        refine z_callV_v (pc := 34) (As := [.int (iI (i)), .int (iI (F1 (i + 1))), .int (iI (K1 (i + 1)))]) (rest := []) (wc := [(o, .inr (3, [.ref lt, .ref kn, .ref sg, .int (iI (n)), .int (iI (bd))])), (lt, zI G 20 (F1)), (kn, zI G 20 (K1))]) (wr := []) hX (mX3_write G (o) (lt) (kn) (sg) (n) (bd) (F1) (K1) (i) (F1 (i + 1)) (K1 (i + 1)) (by first | assumption | omega | (clear ex hX; grind [uZ]))) rfl rfl rfl (C := RX3) gX3_remove_X3_write ⟨rfl, hdX3_write⟩ (T := TX3) (N := 5) 0 rfl rfl ⟨Nat.le_of_ble_eq_true rfl, Nat.le_of_ble_eq_true rfl⟩ [0, 1, 2] [] rfl rfl (by decide) (by decide) (by decide) rfl (Nat.le_of_ble_eq_true rfl) ⟨Nat.le_of_ble_eq_true rfl, Nat.le_of_ble_eq_true rfl⟩ dX3_remove_34 (fun u_4 h_4 => ?_)
        show Z G X 3 (0) (0) [(o, .inr (3, [.ref lt, .ref kn, .ref sg, .int (iI (n)), .int (iI (bd))])), (lt, zI G 20 (uZ F1 i (F1 (i + 1)))), (kn, zI G 20 (uZ K1 i (K1 (i + 1))))] 37 [(0, .ref o), (1, .int (iI (p))), (2, .int (iI (i)))] []
        refine z_iinc (pc := 37) hX (loc' := [(2, .int (iI (i + 1))), (0, .ref o), (1, .int (iI (p)))]) 2 rfl (by decide) rfl dX3_remove_37 ?_
        refine z_goto (pc := 40) (tgt := 2) hX (by decide) dX3_remove_40 ?_
        refine z_at [1, 2, 0] [0, 1, 2] (loc' := [(0, .ref o), (1, .int (iI (p))), (2, .int (iI ((i + 1))))]) (WS' := [(o, .inr (3, [.ref lt, .ref kn, .ref sg, .int (iI (n)), .int (iI (bd))])), (lt, zI G 20 ((uZ F1 i (F1 (i + 1))))), (kn, zI G 20 ((uZ K1 i (K1 (i + 1)))))]) rfl (by decide) rfl ?_
        exact ih_2 (i + 1) (uZ F1 i (F1 (i + 1))) (uZ K1 i (K1 (i + 1))) (by first | assumption | omega | (clear ex hX; grind [uZ])) (by first | assumption | omega | (clear ex hX; grind [uZ])) (by intro j; have := hF1 j; have := hF1 (i + 1); grind [uZ]) (by intro j; have := hK1 j; have := hK1 (i + 1); grind [uZ]) (by omega)
  refine z_at [1, 2, 0] [0, 1, 2] (loc' := [(0, .ref o), (1, .int (iI (p))), (2, .int (iI (p)))]) (WS' := [(o, .inr (3, [.ref lt, .ref kn, .ref sg, .int (iI (n)), .int (iI (bd))])), (lt, zI G 20 (F)), (kn, zI G 20 (K))]) rfl (by decide) rfl ?_
  exact cut_2 (Int.toNat (n - p) + 1) (p) (F) (K) (by first | assumption | omega | (clear ex hX; grind [uZ])) (by first | assumption | omega | (clear ex hX; grind [uZ])) (by intro j; grind) (by intro j; grind) (by omega)
theorem hX3_copyFrom_X3 : ∀ w ∈ wsX30, w ∈ wsX3_copyFrom := by decide +kernel
theorem hdX5_copyRow : yX5_copyRow.cls ≠ "java/lang/invoke/MethodHandle" ∧ yX5_copyRow.cls ≠ "java/lang/invoke/VarHandle" ∧ (parseMethodDescriptor yX5_copyRow.desc).map (fun d => d.parameters.length) = some 2 := by decide +kernel
theorem kX3_copyFrom_f15 : Cond.fieldLink RX3 15 "SignLetters$State" "kerns" "[I" ∈ wsX3_copyFrom := by decide +kernel
theorem kX3_copyFrom_f18 : Cond.fieldLink RX3 18 "SignLetters$State" "settings" "[I" ∈ wsX3_copyFrom := by decide +kernel
theorem kX3_copyFrom_f21 : Cond.fieldLink RX3 21 "SignLetters$State" "boardLength" "I" ∈ wsX3_copyFrom := by decide +kernel
theorem kX3_copyFrom_f32 : Cond.fieldLink RX3 32 "SignLetters$State" "items" "I" ∈ wsX3_copyFrom := by decide +kernel
theorem kX3_copyFrom_f9 : Cond.fieldLink RX3 9 "SignLetters$State" "letters" "[I" ∈ wsX3_copyFrom := by decide +kernel
theorem kX3_copyFrom_inX5 : Cond.initialized RX5 ∈ wsX3_copyFrom := by decide +kernel
theorem kX3_copyFrom_stX5_copyRow : Cond.static yX5_copyRow ∈ wsX3_copyFrom := by decide +kernel
set_option maxHeartbeats 4000000 in
set_option maxRecDepth 100000 in
theorem mX3_copyFrom (G : ZG) (o : Nat) (lt : Nat) (kn : Nat) (sg : Nat) (o2 : Nat) (lt2 : Nat) (kn2 : Nat) (sg2 : Nat) (n : Int) (bd : Int) (n2 : Int) (bd2 : Int) (F : Int → Int) (K : Int → Int) (E : Int → Int) (F2 : Int → Int) (K2 : Int → Int) (E2 : Int → Int)  : zMetv yX3_copyFrom wsX3_copyFrom { frames := 1, cells := 0, slots := 0, locals := 22 } G [.ref o, .ref o2] [(o, .inr (3, [.ref lt, .ref kn, .ref sg, .int (iI (n)), .int (iI (bd))])), (lt, zI G 20 (F)), (kn, zI G 20 (K)), (sg, zI G 6 (E)), (o2, .inr (3, [.ref lt2, .ref kn2, .ref sg2, .int (iI (n2)), .int (iI (bd2))])), (lt2, zI G 20 (F2)), (kn2, zI G 20 (K2)), (sg2, zI G 6 (E2))] (fun (uu : Unit) => True) (fun (uu : Unit) => [(o, .inr (3, [.ref lt, .ref kn, .ref sg, .int (iI (n2)), .int (iI (bd2))])), (lt, zI G 20 (F2)), (kn, zI G 20 (K2)), (sg, zI G 6 (E2)), (o2, .inr (3, [.ref lt2, .ref kn2, .ref sg2, .int (iI (n2)), .int (iI (bd2))])), (lt2, zI G 20 (F2)), (kn2, zI G 20 (K2)), (sg2, zI G 6 (E2))]) 0 0 := by
  refine z_metv (cc := cX3_copyFrom) (nL := 2) (by decide +kernel) rfl (Nat.le_of_ble_eq_true rfl) (fun X hX ex => ?_)
  have hX : ZOk G X 2 cX3_copyFrom RX3 wsX3_copyFrom { frames := 1, cells := 0, slots := 0, locals := 22 } := hX
  show Z G X 2 (0) (0) [(o, .inr (3, [.ref lt, .ref kn, .ref sg, .int (iI (n)), .int (iI (bd))])), (lt, zI G 20 (F)), (kn, zI G 20 (K)), (sg, zI G 6 (E)), (o2, .inr (3, [.ref lt2, .ref kn2, .ref sg2, .int (iI (n2)), .int (iI (bd2))])), (lt2, zI G 20 (F2)), (kn2, zI G 20 (K2)), (sg2, zI G 6 (E2))] 0 [(0, .ref o), (1, .ref o2)] []
  refine z_aload_n (pc := 0) hX 1 rfl rfl dX3_copyFrom_0 ?_
  refine z_get (pc := 1) hX (T := TX3) (C := RX3) (N := 5) (i := 9) (ref := "SignLetters$State") (name := "letters") (desc := "[I") hX3_copyFrom_X3 4 rfl rfl 0 (by decide) kX3_copyFrom_f9 ⟨rfl, rfl, rfl⟩ (v := .ref lt2) rfl dX3_copyFrom_1 ?_
  refine z_aload_n (pc := 4) hX 0 rfl rfl dX3_copyFrom_4 ?_
  refine z_get (pc := 5) hX (T := TX3) (C := RX3) (N := 5) (i := 9) (ref := "SignLetters$State") (name := "letters") (desc := "[I") hX3_copyFrom_X3 0 rfl rfl 0 (by decide) kX3_copyFrom_f9 ⟨rfl, rfl, rfl⟩ (v := .ref lt) rfl dX3_copyFrom_5 ?_
  refine z_callSN_v (pc := 8) (As := [.ref lt2, .ref lt]) (rest := []) (wc := [(lt2, zI G 20 (F2)), (lt, zI G 20 (F))]) (wr := [(o, .inr (3, [.ref lt, .ref kn, .ref sg, .int (iI (n)), .int (iI (bd))])), (kn, zI G 20 (K)), (sg, zI G 6 (E)), (o2, .inr (3, [.ref lt2, .ref kn2, .ref sg2, .int (iI (n2)), .int (iI (bd2))])), (kn2, zI G 20 (K2)), (sg2, zI G 6 (E2))]) hX (mX5_copyRow G (lt2) (lt) (20) (F2) (F) (by first | assumption | omega | (clear ex hX; grind [uZ]))) rfl rfl rfl gX3_copyFrom_X5_copyRow_n28 hdX5_copyRow (by decide +kernel) kX3_copyFrom_inX5 kX3_copyFrom_stX5_copyRow ⟨Nat.le_of_ble_eq_true rfl, Nat.le_of_ble_eq_true rfl⟩ [5, 1] [0, 2, 3, 4, 6, 7] rfl rfl (by decide) (by decide) (by decide) rfl (Nat.le_of_ble_eq_true rfl) ⟨Nat.le_of_ble_eq_true rfl, Nat.le_of_ble_eq_true rfl⟩ dX3_copyFrom_8 (fun u_1 h_1 => ?_)
  show Z G X 2 (0) (0) [(o, .inr (3, [.ref lt, .ref kn, .ref sg, .int (iI (n)), .int (iI (bd))])), (kn, zI G 20 (K)), (sg, zI G 6 (E)), (o2, .inr (3, [.ref lt2, .ref kn2, .ref sg2, .int (iI (n2)), .int (iI (bd2))])), (kn2, zI G 20 (K2)), (sg2, zI G 6 (E2)), (lt2, zI G 20 (F2)), (lt, zI G 20 (F2))] 11 [(0, .ref o), (1, .ref o2)] []
  refine z_aload_n (pc := 11) hX 1 rfl rfl dX3_copyFrom_11 ?_
  refine z_get (pc := 12) hX (T := TX3) (C := RX3) (N := 5) (i := 15) (ref := "SignLetters$State") (name := "kerns") (desc := "[I") hX3_copyFrom_X3 3 rfl rfl 1 (by decide) kX3_copyFrom_f15 ⟨rfl, rfl, rfl⟩ (v := .ref kn2) rfl dX3_copyFrom_12 ?_
  refine z_aload_n (pc := 15) hX 0 rfl rfl dX3_copyFrom_15 ?_
  refine z_get (pc := 16) hX (T := TX3) (C := RX3) (N := 5) (i := 15) (ref := "SignLetters$State") (name := "kerns") (desc := "[I") hX3_copyFrom_X3 0 rfl rfl 1 (by decide) kX3_copyFrom_f15 ⟨rfl, rfl, rfl⟩ (v := .ref kn) rfl dX3_copyFrom_16 ?_
  refine z_callSN_v (pc := 19) (As := [.ref kn2, .ref kn]) (rest := []) (wc := [(kn2, zI G 20 (K2)), (kn, zI G 20 (K))]) (wr := [(o, .inr (3, [.ref lt, .ref kn, .ref sg, .int (iI (n)), .int (iI (bd))])), (sg, zI G 6 (E)), (o2, .inr (3, [.ref lt2, .ref kn2, .ref sg2, .int (iI (n2)), .int (iI (bd2))])), (sg2, zI G 6 (E2)), (lt2, zI G 20 (F2)), (lt, zI G 20 (F2))]) hX (mX5_copyRow G (kn2) (kn) (20) (K2) (K) (by first | assumption | omega | (clear ex hX; grind [uZ]))) rfl rfl rfl gX3_copyFrom_X5_copyRow_n28 hdX5_copyRow (by decide +kernel) kX3_copyFrom_inX5 kX3_copyFrom_stX5_copyRow ⟨Nat.le_of_ble_eq_true rfl, Nat.le_of_ble_eq_true rfl⟩ [4, 1] [0, 2, 3, 5, 6, 7] rfl rfl (by decide) (by decide) (by decide) rfl (Nat.le_of_ble_eq_true rfl) ⟨Nat.le_of_ble_eq_true rfl, Nat.le_of_ble_eq_true rfl⟩ dX3_copyFrom_19 (fun u_2 h_2 => ?_)
  show Z G X 2 (0) (0) [(o, .inr (3, [.ref lt, .ref kn, .ref sg, .int (iI (n)), .int (iI (bd))])), (sg, zI G 6 (E)), (o2, .inr (3, [.ref lt2, .ref kn2, .ref sg2, .int (iI (n2)), .int (iI (bd2))])), (sg2, zI G 6 (E2)), (lt2, zI G 20 (F2)), (lt, zI G 20 (F2)), (kn2, zI G 20 (K2)), (kn, zI G 20 (K2))] 22 [(0, .ref o), (1, .ref o2)] []
  refine z_aload_n (pc := 22) hX 1 rfl rfl dX3_copyFrom_22 ?_
  refine z_get (pc := 23) hX (T := TX3) (C := RX3) (N := 5) (i := 18) (ref := "SignLetters$State") (name := "settings") (desc := "[I") hX3_copyFrom_X3 2 rfl rfl 2 (by decide) kX3_copyFrom_f18 ⟨rfl, rfl, rfl⟩ (v := .ref sg2) rfl dX3_copyFrom_23 ?_
  refine z_aload_n (pc := 26) hX 0 rfl rfl dX3_copyFrom_26 ?_
  refine z_get (pc := 27) hX (T := TX3) (C := RX3) (N := 5) (i := 18) (ref := "SignLetters$State") (name := "settings") (desc := "[I") hX3_copyFrom_X3 0 rfl rfl 2 (by decide) kX3_copyFrom_f18 ⟨rfl, rfl, rfl⟩ (v := .ref sg) rfl dX3_copyFrom_27 ?_
  refine z_callSN_v (pc := 30) (As := [.ref sg2, .ref sg]) (rest := []) (wc := [(sg2, zI G 6 (E2)), (sg, zI G 6 (E))]) (wr := [(o, .inr (3, [.ref lt, .ref kn, .ref sg, .int (iI (n)), .int (iI (bd))])), (o2, .inr (3, [.ref lt2, .ref kn2, .ref sg2, .int (iI (n2)), .int (iI (bd2))])), (lt2, zI G 20 (F2)), (lt, zI G 20 (F2)), (kn2, zI G 20 (K2)), (kn, zI G 20 (K2))]) hX (mX5_copyRow G (sg2) (sg) (6) (E2) (E) (by first | assumption | omega | (clear ex hX; grind [uZ]))) rfl rfl rfl gX3_copyFrom_X5_copyRow_n28 hdX5_copyRow (by decide +kernel) kX3_copyFrom_inX5 kX3_copyFrom_stX5_copyRow ⟨Nat.le_of_ble_eq_true rfl, Nat.le_of_ble_eq_true rfl⟩ [3, 1] [0, 2, 4, 5, 6, 7] rfl rfl (by decide) (by decide) (by decide) rfl (Nat.le_of_ble_eq_true rfl) ⟨Nat.le_of_ble_eq_true rfl, Nat.le_of_ble_eq_true rfl⟩ dX3_copyFrom_30 (fun u_3 h_3 => ?_)
  show Z G X 2 (0) (0) [(o, .inr (3, [.ref lt, .ref kn, .ref sg, .int (iI (n)), .int (iI (bd))])), (o2, .inr (3, [.ref lt2, .ref kn2, .ref sg2, .int (iI (n2)), .int (iI (bd2))])), (lt2, zI G 20 (F2)), (lt, zI G 20 (F2)), (kn2, zI G 20 (K2)), (kn, zI G 20 (K2)), (sg2, zI G 6 (E2)), (sg, zI G 6 (E2))] 33 [(0, .ref o), (1, .ref o2)] []
  refine z_aload_n (pc := 33) hX 0 rfl rfl dX3_copyFrom_33 ?_
  refine z_aload_n (pc := 34) hX 1 rfl rfl dX3_copyFrom_34 ?_
  refine z_get (pc := 35) hX (T := TX3) (C := RX3) (N := 5) (i := 32) (ref := "SignLetters$State") (name := "items") (desc := "I") hX3_copyFrom_X3 1 rfl rfl 3 (by decide) kX3_copyFrom_f32 ⟨rfl, rfl, rfl⟩ (v := .int (iI (n2))) rfl dX3_copyFrom_35 ?_
  refine z_put (pc := 38) hX (T := TX3) (C := RX3) (N := 5) (i := 32) (ref := "SignLetters$State") (name := "items") (desc := "I") (WS' := [(o, .inr (3, [.ref lt, .ref kn, .ref sg, .int (iI (n2)), .int (iI (bd))])), (o2, .inr (3, [.ref lt2, .ref kn2, .ref sg2, .int (iI (n2)), .int (iI (bd2))])), (lt2, zI G 20 (F2)), (lt, zI G 20 (F2)), (kn2, zI G 20 (K2)), (kn, zI G 20 (K2)), (sg2, zI G 6 (E2)), (sg, zI G 6 (E2))]) tyX3 tyX3_ok nmX3 hX3_copyFrom_X3 0 rfl rfl 3 (by decide) kX3_copyFrom_f32 ⟨rfl, rfl, rfl⟩ rfl (ty := .int) (by decide +kernel) rfl rfl (Nat.le_of_ble_eq_true rfl) rfl dX3_copyFrom_38 ?_
  refine z_aload_n (pc := 41) hX 0 rfl rfl dX3_copyFrom_41 ?_
  refine z_aload_n (pc := 42) hX 1 rfl rfl dX3_copyFrom_42 ?_
  refine z_get (pc := 43) hX (T := TX3) (C := RX3) (N := 5) (i := 21) (ref := "SignLetters$State") (name := "boardLength") (desc := "I") hX3_copyFrom_X3 1 rfl rfl 4 (by decide) kX3_copyFrom_f21 ⟨rfl, rfl, rfl⟩ (v := .int (iI (bd2))) rfl dX3_copyFrom_43 ?_
  refine z_put (pc := 46) hX (T := TX3) (C := RX3) (N := 5) (i := 21) (ref := "SignLetters$State") (name := "boardLength") (desc := "I") (WS' := [(o, .inr (3, [.ref lt, .ref kn, .ref sg, .int (iI (n2)), .int (iI (bd2))])), (o2, .inr (3, [.ref lt2, .ref kn2, .ref sg2, .int (iI (n2)), .int (iI (bd2))])), (lt2, zI G 20 (F2)), (lt, zI G 20 (F2)), (kn2, zI G 20 (K2)), (kn, zI G 20 (K2)), (sg2, zI G 6 (E2)), (sg, zI G 6 (E2))]) tyX3 tyX3_ok nmX3 hX3_copyFrom_X3 0 rfl rfl 4 (by decide) kX3_copyFrom_f21 ⟨rfl, rfl, rfl⟩ rfl (ty := .int) (by decide +kernel) rfl rfl (Nat.le_of_ble_eq_true rfl) rfl dX3_copyFrom_46 ?_
  refine z_at [0, 1] [0, 3, 5, 7, 1, 2, 4, 6] (loc' := [(0, .ref o), (1, .ref o2)]) (WS' := [(o, .inr (3, [.ref lt, .ref kn, .ref sg, .int (iI (n2)), .int (iI (bd2))])), (lt, zI G 20 (F2)), (kn, zI G 20 (K2)), (sg, zI G 6 (E2)), (o2, .inr (3, [.ref lt2, .ref kn2, .ref sg2, .int (iI (n2)), .int (iI (bd2))])), (lt2, zI G 20 (F2)), (kn2, zI G 20 (K2)), (sg2, zI G 6 (E2))]) rfl (by decide) rfl ?_
  exact ex _ _ () _ dX3_copyFrom_49 trivial rfl
