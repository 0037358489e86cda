theorem hX6_width_X6 : ∀ w ∈ wsX60, w ∈ wsX6_width := by decide +kernel
theorem hdX6_lays : yX6_lays.cls ≠ "java/lang/invoke/MethodHandle" ∧ yX6_lays.cls ≠ "java/lang/invoke/VarHandle" ∧ (parseMethodDescriptor yX6_lays.desc).map (fun d => d.parameters.length) = some 0 := by decide +kernel
theorem kX6_width_f25 : Cond.fieldLink RX6 25 "SignLettersModel" "ends" "[I" ∈ wsX6_width := by decide +kernel
theorem kX6_width_f7 : Cond.fieldLink RX6 7 "SignLettersModel" "s" "[I" ∈ wsX6_width := by decide +kernel
set_option maxHeartbeats 400000 in
set_option maxRecDepth 100000 in
theorem mX6_width (G : ZG) (m : Nat) (s1 : Nat) (s2 : Nat) (s3 : Nat) (s4 : Nat) (m1 : Nat) (m2 : Nat) (m3 : Nat) (m4 : Nat) (l1 : Nat) (l2 : Nat) (th : Int) (sm : Int) (len : Int) (ax : Int) (rm : Int) (hs : Bool) (hh : Int64) (S : Int → Int) (B0 : Int → Int) (N0 : Int → Int) (G0 : Int → Int) (A : Int → Int) (hE : okE S) (hn : 0 ≤ S 7 ∧ S 7 ≤ 20) (hF : okF (sF S) (S 7)) (hK : okK (sK S) (S 7)) : zMeti yX6_width wsX6_width { frames := 6, cells := 0, slots := 0, locals := 145 } G [.ref m] [(m, .inr (6, [.int (iI (th)), .ref s1, .ref s2, .int (iI (sm)), .ref s3, .int (iI (bI (hs = true))), .ref s4, .int (iI (len)), .ref m1, .ref m2, .ref m3, .ref m4, .int (iI (ax)), .ref l1, .ref l2, .int (iI (rm)), .long (hh)])), (s1, zI G 48 (S)), (m1, zI G 20 (B0)), (m2, zI G 20 (N0)), (m3, zI G 20 (G0)), (m4, zI G 20 (A))] (fun (rr : Int32) (uu : (Int → Int) × (Int → Int) × (Int → Int) × (Int → Int)) => (rr = iI (enA S (sF S) (sK S) (S 7) (S 7))) ∧ (lyM S uu.1 uu.2.1 uu.2.2.1 uu.2.2.2)) (fun (uu : (Int → Int) × (Int → Int) × (Int → Int) × (Int → Int)) => [(m, .inr (6, [.int (iI (th)), .ref s1, .ref s2, .int (iI (sm)), .ref s3, .int (iI (bI (hs = true))), .ref s4, .int (iI (len)), .ref m1, .ref m2, .ref m3, .ref m4, .int (iI (ax)), .ref l1, .ref l2, .int (iI (rm)), .long (hh)])), (s1, zI G 48 (S)), (m1, zI G 20 (uu.1)), (m2, zI G 20 (uu.2.1)), (m3, zI G 20 (uu.2.2.1)), (m4, zI G 20 (uu.2.2.2))]) 0 0 := by
  refine z_meti (cc := cX6_width) (nL := 1) (rt := .int) (by decide +kernel) rfl (Nat.le_of_ble_eq_true rfl) (fun X hX ex => ?_)
  have hX : ZOk G X 1 cX6_width RX6 wsX6_width { frames := 6, cells := 0, slots := 0, locals := 145 } := hX
  show Z G X 1 (0) (0) [(m, .inr (6, [.int (iI (th)), .ref s1, .ref s2, .int (iI (sm)), .ref s3, .int (iI (bI (hs = true))), .ref s4, .int (iI (len)), .ref m1, .ref m2, .ref m3, .ref m4, .int (iI (ax)), .ref l1, .ref l2, .int (iI (rm)), .long (hh)])), (s1, zI G 48 (S)), (m1, zI G 20 (B0)), (m2, zI G 20 (N0)), (m3, zI G 20 (G0)), (m4, zI G 20 (A))] 0 [(0, .ref m)] []
  refine z_aload_n (pc := 0) hX 0 rfl rfl dX6_width_0 ?_
  refine z_callV_v (pc := 1) (As := []) (rest := []) (wc := [(m, .inr (6, [.int (iI (th)), .ref s1, .ref s2, .int (iI (sm)), .ref s3, .int (iI (bI (hs = true))), .ref s4, .int (iI (len)), .ref m1, .ref m2, .ref m3, .ref m4, .int (iI (ax)), .ref l1, .ref l2, .int (iI (rm)), .long (hh)])), (s1, zI G 48 (S)), (m1, zI G 20 (B0)), (m2, zI G 20 (N0)), (m3, zI G 20 (G0)), (m4, zI G 20 (A))]) (wr := []) hX (mX6_lays G (m) (s1) (s2) (s3) (s4) (m1) (m2) (m3) (m4) (l1) (l2) (th) (sm) (len) (ax) (rm) (hs) (hh) (S) (B0) (N0) (G0) (A) (by first | assumption | omega | (clear ex hX; grind [uZ])) (by first | assumption | omega | (clear ex hX; grind [uZ])) (by first | assumption | omega | (clear ex hX; grind [uZ])) (by first | assumption | omega | (clear ex hX; grind [uZ]))) rfl rfl rfl (C := RX6) gX6_width_X6_lays ⟨rfl, hdX6_lays⟩ (T := TX6) (N := 17) 0 rfl rfl ⟨Nat.le_of_ble_eq_true rfl, Nat.le_of_ble_eq_true rfl⟩ [0, 1, 2, 3, 4, 5] [] rfl rfl (by decide) (by decide) (by decide) rfl (Nat.le_of_ble_eq_true rfl) ⟨Nat.le_of_ble_eq_true rfl, Nat.le_of_ble_eq_true rfl⟩ dX6_width_1 (fun u_1 h_1 => ?_)
  obtain ⟨B1_1, N1_1, G1_1, A1_1⟩ := u_1
  try dsimp only at h_1
  have hly_1 := h_1
  show Z G X 1 (0) (0) [(m, .inr (6, [.int (iI (th)), .ref s1, .ref s2, .int (iI (sm)), .ref s3, .int (iI (bI (hs = true))), .ref s4, .int (iI (len)), .ref m1, .ref m2, .ref m3, .ref m4, .int (iI (ax)), .ref l1, .ref l2, .int (iI (rm)), .long (hh)])), (s1, zI G 48 (S)), (m1, zI G 20 (B1_1)), (m2, zI G 20 (N1_1)), (m3, zI G 20 (G1_1)), (m4, zI G 20 (A1_1))] 4 [(0, .ref m)] []
  refine z_aload_n (pc := 4) hX 0 rfl rfl dX6_width_4 ?_
  refine z_get (pc := 5) hX (T := TX6) (C := RX6) (N := 17) (i := 7) (ref := "SignLettersModel") (name := "s") (desc := "[I") hX6_width_X6 0 rfl rfl 1 (by decide) kX6_width_f7 ⟨rfl, rfl, rfl⟩ (v := .ref s1) rfl dX6_width_5 ?_
  refine z_bipush (pc := 8) hX (z := 7) (by decide +kernel) dX6_width_8 ?_
  refine z_iald (pc := 10) hX (N := 48) (F := S) 1 rfl (by omega) (by omega) dX6_width_10 ?_
  obtain ⟨g1, g2, g3, g4⟩ := id hly_1
  refine z_if_ne (pc := 11) (tgt := 18) hX (by decide) (by omega) dX6_width_11 (fun c_2 => ?_) (fun c_2 => ?_)
  · refine z_aload_n (pc := 18) hX 0 rfl rfl dX6_width_18 ?_
    refine z_get (pc := 19) hX (T := TX6) (C := RX6) (N := 17) (i := 25) (ref := "SignLettersModel") (name := "ends") (desc := "[I") hX6_width_X6 0 rfl rfl 9 (by decide) kX6_width_f25 ⟨rfl, rfl, rfl⟩ (v := .ref m2) rfl dX6_width_19 ?_
    refine z_aload_n (pc := 22) hX 0 rfl rfl dX6_width_22 ?_
    refine z_get (pc := 23) hX (T := TX6) (C := RX6) (N := 17) (i := 7) (ref := "SignLettersModel") (name := "s") (desc := "[I") hX6_width_X6 0 rfl rfl 1 (by decide) kX6_width_f7 ⟨rfl, rfl, rfl⟩ (v := .ref s1) rfl dX6_width_23 ?_
    refine z_bipush (pc := 26) hX (z := 7) (by decide +kernel) dX6_width_26 ?_
    refine z_iald (pc := 28) hX (N := 48) (F := S) 1 rfl (by omega) (by omega) dX6_width_28 ?_
    refine z_iconst (pc := 29) hX dX6_width_29 ?_
    refine z_isub (pc := 30) hX dX6_width_30 ?_
    refine z_iald (pc := 31) hX (N := 20) (F := N1_1) 3 rfl (by omega) (by omega) dX6_width_31 ?_
    exact ex _ _ _ ((B1_1), (N1_1), (G1_1), (A1_1)) _ dX6_width_32 rfl ⟨(congrArg iI (show (N1_1 ((S 7) - 1) : Int) = enA S (sF S) (sK S) (S 7) (S 7) from by first | (rw [g2 (S 7 - 1) (by omega) (by omega), show S 7 - 1 + 1 = S 7 by omega]; done) | (rw [show S 7 = 0 by omega]; rfl))), (by assumption)⟩ rfl
  · refine z_iconst (pc := 14) hX dX6_width_14 ?_
    refine z_goto (pc := 15) (tgt := 32) hX (by decide) dX6_width_15 ?_
    exact ex _ _ _ ((B1_1), (N1_1), (G1_1), (A1_1)) _ dX6_width_32 rfl ⟨(congrArg iI (show (0 : Int) = enA S (sF S) (sK S) (S 7) (S 7) from by first | (rw [g2 (S 7 - 1) (by omega) (by omega), show S 7 - 1 + 1 = S 7 by omega]; done) | (rw [show S 7 = 0 by omega]; rfl))), (by assumption)⟩ rfl
theorem hX6_faults_X6 : ∀ w ∈ wsX60, w ∈ wsX6_faults := by decide +kernel
theorem hdX6_isFault : yX6_isFault.cls ≠ "java/lang/invoke/MethodHandle" ∧ yX6_isFault.cls ≠ "java/lang/invoke/VarHandle" ∧ (parseMethodDescriptor yX6_isFault.desc).map (fun d => d.parameters.length) = some 1 := by decide +kernel
theorem kX6_faults_f7 : Cond.fieldLink RX6 7 "SignLettersModel" "s" "[I" ∈ wsX6_faults := by decide +kernel
set_option maxHeartbeats 400000 in
set_option maxRecDepth 100000 in
theorem mX6_faults (G : ZG) (m : Nat) (s1 : Nat) (s2 : Nat) (s3 : Nat) (s4 : Nat) (m1 : Nat) (m2 : Nat) (m3 : Nat) (m4 : Nat) (l1 : Nat) (l2 : Nat) (th : Int) (sm : Int) (len : Int) (ax : Int) (rm : Int) (hs : Bool) (hh : Int64) (S : Int → Int) (B0 : Int → Int) (N0 : Int → Int) (G0 : Int → Int) (A : Int → Int) (hE : okE S) (hn : 0 ≤ S 7 ∧ S 7 ≤ 20) (hF : okF (sF S) (S 7)) (hK : okK (sK S) (S 7)) : zMeti yX6_faults wsX6_faults { frames := 6, cells := 0, slots := 0, locals := 145 } G [.ref m] [(m, .inr (6, [.int (iI (th)), .ref s1, .ref s2, .int (iI (sm)), .ref s3, .int (iI (bI (hs = true))), .ref s4, .int (iI (len)), .ref m1, .ref m2, .ref m3, .ref m4, .int (iI (ax)), .ref l1, .ref l2, .int (iI (rm)), .long (hh)])), (s1, zI G 48 (S)), (m1, zI G 20 (B0)), (m2, zI G 20 (N0)), (m3, zI G 20 (G0)), (m4, zI G 20 (A))] (fun (rr : Int32) (uu : (Int → Int) × (Int → Int) × (Int → Int) × (Int → Int)) => (rr = iI (fsN S (sF S) (sK S) (S 7))) ∧ (lyM S uu.1 uu.2.1 uu.2.2.1 uu.2.2.2)) (fun (uu : (Int → Int) × (Int → Int) × (Int → Int) × (Int → Int)) => [(m, .inr (6, [.int (iI (th)), .ref s1, .ref s2, .int (iI (sm)), .ref s3, .int (iI (bI (hs = true))), .ref s4, .int (iI (len)), .ref m1, .ref m2, .ref m3, .ref m4, .int (iI (ax)), .ref l1, .ref l2, .int (iI (rm)), .long (hh)])), (s1, zI G 48 (S)), (m1, zI G 20 (uu.1)), (m2, zI G 20 (uu.2.1)), (m3, zI G 20 (uu.2.2.1)), (m4, zI G 20 (uu.2.2.2))]) 0 0 := by
  refine z_meti (cc := cX6_faults) (nL := 3) (rt := .int) (by decide +kernel) rfl (Nat.le_of_ble_eq_true rfl) (fun X hX ex => ?_)
  have hX : ZOk G X 3 cX6_faults RX6 wsX6_faults { frames := 6, cells := 0, slots := 0, locals := 145 } := hX
  show Z G X 3 (0) (0) [(m, .inr (6, [.int (iI (th)), .ref s1, .ref s2, .int (iI (sm)), .ref s3, .int (iI (bI (hs = true))), .ref s4, .int (iI (len)), .ref m1, .ref m2, .ref m3, .ref m4, .int (iI (ax)), .ref l1, .ref l2, .int (iI (rm)), .long (hh)])), (s1, zI G 48 (S)), (m1, zI G 20 (B0)), (m2, zI G 20 (N0)), (m3, zI G 20 (G0)), (m4, zI G 20 (A))] 0 [(0, .ref m)] []
  refine z_aload_n (pc := 0) hX 0 rfl rfl dX6_faults_0 ?_
  refine z_callV_v (pc := 1) (As := []) (rest := []) (wc := [(m, .inr (6, [.int (iI (th)), .ref s1, .ref s2, .int (iI (sm)), .ref s3, .int (iI (bI (hs = true))), .ref s4, .int (iI (len)), .ref m1, .ref m2, .ref m3, .ref m4, .int (iI (ax)), .ref l1, .ref l2, .int (iI (rm)), .long (hh)])), (s1, zI G 48 (S)), (m1, zI G 20 (B0)), (m2, zI G 20 (N0)), (m3, zI G 20 (G0)), (m4, zI G 20 (A))]) (wr := []) hX (mX6_lays G (m) (s1) (s2) (s3) (s4) (m1) (m2) (m3) (m4) (l1) (l2) (th) (sm) (len) (ax) (rm) (hs) (hh) (S) (B0) (N0) (G0) (A) (by first | assumption | omega | (clear ex hX; grind [uZ])) (by first | assumption | omega | (clear ex hX; grind [uZ])) (by first | assumption | omega | (clear ex hX; grind [uZ])) (by first | assumption | omega | (clear ex hX; grind [uZ]))) rfl rfl rfl (C := RX6) gX6_faults_X6_lays ⟨rfl, hdX6_lays⟩ (T := TX6) (N := 17) 0 rfl rfl ⟨Nat.le_of_ble_eq_true rfl, Nat.le_of_ble_eq_true rfl⟩ [0, 1, 2, 3, 4, 5] [] rfl rfl (by decide) (by decide) (by decide) rfl (Nat.le_of_ble_eq_true rfl) ⟨Nat.le_of_ble_eq_true rfl, Nat.le_of_ble_eq_true rfl⟩ dX6_faults_1 (fun u_1 h_1 => ?_)
  obtain ⟨B1_1, N1_1, G1_1, A1_1⟩ := u_1
  try dsimp only at h_1
  have hly_1 := h_1
  show Z G X 3 (0) (0) [(m, .inr (6, [.int (iI (th)), .ref s1, .ref s2, .int (iI (sm)), .ref s3, .int (iI (bI (hs = true))), .ref s4, .int (iI (len)), .ref m1, .ref m2, .ref m3, .ref m4, .int (iI (ax)), .ref l1, .ref l2, .int (iI (rm)), .long (hh)])), (s1, zI G 48 (S)), (m1, zI G 20 (B1_1)), (m2, zI G 20 (N1_1)), (m3, zI G 20 (G1_1)), (m4, zI G 20 (A1_1))] 4 [(0, .ref m)] []
  obtain ⟨g1, g2, g3, g4⟩ := id hly_1
  refine z_iconst (pc := 4) hX dX6_faults_4 ?_
  refine z_istore_n (pc := 5) hX (loc' := [(1, .int (iI (0))), (0, .ref m)]) rfl (by decide) rfl dX6_faults_5 ?_
  refine z_iconst (pc := 6) hX dX6_faults_6 ?_
  refine z_istore_n (pc := 7) hX (loc' := [(2, .int (iI (0))), (1, .int (iI (0))), (0, .ref m)]) rfl (by decide) rfl dX6_faults_7 ?_
  have cut_8 : ∀ (fz : Nat) (i : Int) (c : Int) (h0 : 0 ≤ i) (h1 : i ≤ S 7) (hc : c = sumZ (fsF S (sF S) (sK S) (S 7)) i.toNat) (hm_8 : S 7 - i < (fz : Int)), Z G X 3 (0) (0) [(m, .inr (6, [.int (iI (th)), .ref s1, .ref s2, .int (iI (sm)), .ref s3, .int (iI (bI (hs = true))), .ref s4, .int (iI (len)), .ref m1, .ref m2, .ref m3, .ref m4, .int (iI (ax)), .ref l1, .ref l2, .int (iI (rm)), .long (hh)])), (s1, zI G 48 (S)), (m1, zI G 20 (B1_1)), (m2, zI G 20 (N1_1)), (m3, zI G 20 (G1_1)), (m4, zI G 20 (A1_1))] 8 [(0, .ref m), (1, .int (iI (c))), (2, .int (iI (i)))] [] := by
    intro fz
    induction fz with
    | zero =>
      intro i c h0 h1 hc hm_8
      exfalso
      omega
    | succ fz ih =>
      intro i c h0 h1 hc hm_8
      have ih_8 := ih
      clear ih
      refine z_iload_n (pc := 8) hX 2 rfl rfl dX6_faults_8 ?_
      refine z_aload_n (pc := 9) hX 0 rfl rfl dX6_faults_9 ?_
      refine z_get (pc := 10) hX (T := TX6) (C := RX6) (N := 17) (i := 7) (ref := "SignLettersModel") (name := "s") (desc := "[I") hX6_faults_X6 0 rfl rfl 1 (by decide) kX6_faults_f7 ⟨rfl, rfl, rfl⟩ (v := .ref s1) rfl dX6_faults_10 ?_
      refine z_bipush (pc := 13) hX (z := 7) (by decide +kernel) dX6_faults_13 ?_
      refine z_iald (pc := 15) hX (N := 48) (F := S) 1 rfl (by omega) (by omega) dX6_faults_15 ?_
      refine z_icmp_ge (pc := 16) (tgt := 41) hX (by decide) (by omega) (by omega) dX6_faults_16 (fun c_2 => ?_) (fun c_2 => ?_)
      · refine z_iload_n (pc := 41) hX 1 rfl rfl dX6_faults_41 ?_
        exact ex _ _ _ ((B1_1), (N1_1), (G1_1), (A1_1)) _ dX6_faults_42 rfl ⟨(congrArg iI (show (c : Int) = fsN S (sF S) (sK S) (S 7) from by rw [hc, show i = S 7 by omega]; rfl)), (by assumption)⟩ rfl
      · have hA9 := g4 i h0 (by omega)
        have har := arA_r (F := sF S) (p := i) hE hK ⟨h0, by omega⟩
        refine z_iload_n (pc := 19) hX 1 rfl rfl dX6_faults_19 ?_
        refine z_aload_n (pc := 20) hX 0 rfl rfl dX6_faults_20 ?_
        refine z_iload_n (pc := 21) hX 2 rfl rfl dX6_faults_21 ?_
        refine z_callV_i (pc := 22) (As := [.int (iI (i))]) (rest := [.int (iI (c))]) (wc := [(m, .inr (6, [.int (iI (th)), .ref s1, .ref s2, .int (iI (sm)), .ref s3, .int (iI (bI (hs = true))), .ref s4, .int (iI (len)), .ref m1, .ref m2, .ref m3, .ref m4, .int (iI (ax)), .ref l1, .ref l2, .int (iI (rm)), .long (hh)])), (s1, zI G 48 (S)), (m4, zI G 20 (A1_1))]) (wr := [(m1, zI G 20 (B1_1)), (m2, zI G 20 (N1_1)), (m3, zI G 20 (G1_1))]) hX (mX6_isFault G (m) (s1) (s2) (s3) (s4) (m1) (m2) (m3) (m4) (l1) (l2) (th) (sm) (len) (ax) (rm) (hs) (hh) (S) (A1_1) (i) (by first | assumption | omega | (clear ex hX ih_8; grind [uZ])) (by first | assumption | omega | (clear ex hX ih_8; grind [uZ])) (by first | assumption | omega | (clear ex hX ih_8; grind [uZ]))) rfl rfl rfl (C := RX6) gX6_faults_X6_isFault ⟨rfl, hdX6_isFault⟩ (T := TX6) (N := 17) 0 rfl rfl ⟨Nat.le_of_ble_eq_true rfl, Nat.le_of_ble_eq_true rfl⟩ [0, 1, 5] [2, 3, 4] rfl rfl (by decide) (by decide) (by decide) rfl (Nat.le_of_ble_eq_true rfl) ⟨Nat.le_of_ble_eq_true rfl, Nat.le_of_ble_eq_true rfl⟩ dX6_faults_22 (fun r_3 u_3 h_3 => ?_)
        subst h_3
        show Z G X 3 (0) (0) [(m1, zI G 20 (B1_1)), (m2, zI G 20 (N1_1)), (m3, zI G 20 (G1_1)), (m, .inr (6, [.int (iI (th)), .ref s1, .ref s2, .int (iI (sm)), .ref s3, .int (iI (bI (hs = true))), .ref s4, .int (iI (len)), .ref m1, .ref m2, .ref m3, .ref m4, .int (iI (ax)), .ref l1, .ref l2, .int (iI (rm)), .long (hh)])), (s1, zI G 48 (S)), (m4, zI G 20 (A1_1))] 25 [(0, .ref m), (1, .int (iI (c))), (2, .int (iI (i)))] [.int (iI (bI (A1_1 i ≠ -1 ∧ S 5 < shS (S 3) (A1_1 i)))), .int (iI (c))]
        refine z_bif_eq (pc := 25) (tgt := 32) hX (by decide) dX6_faults_25 (fun c_4 => ?_) (fun c_4 => ?_)
        · refine z_iconst (pc := 32) hX dX6_faults_32 ?_
          refine z_iadd (pc := 33) hX dX6_faults_33 ?_
          refine z_istore_n (pc := 34) hX (loc' := [(1, .int (iI (c + 0))), (0, .ref m), (2, .int (iI (i)))]) rfl (by decide) rfl dX6_faults_34 ?_
          refine z_iinc (pc := 35) hX (loc' := [(2, .int (iI (i + 1))), (1, .int (iI (c + 0))), (0, .ref m)]) 2 rfl (by decide) rfl dX6_faults_35 ?_
          refine z_goto (pc := 38) (tgt := 8) hX (by decide) dX6_faults_38 ?_
          refine z_at [2, 1, 0] [3, 4, 0, 1, 2, 5] (loc' := [(0, .ref m), (1, .int (iI ((c + 0)))), (2, .int (iI ((i + 1))))]) (WS' := [(m, .inr (6, [.int (iI (th)), .ref s1, .ref s2, .int (iI (sm)), .ref s3, .int (iI (bI (hs = true))), .ref s4, .int (iI (len)), .ref m1, .ref m2, .ref m3, .ref m4, .int (iI (ax)), .ref l1, .ref l2, .int (iI (rm)), .long (hh)])), (s1, zI G 48 (S)), (m1, zI G 20 (B1_1)), (m2, zI G 20 (N1_1)), (m3, zI G 20 (G1_1)), (m4, zI G 20 (A1_1))]) rfl (by decide) rfl ?_
          exact ih_8 (i + 1) (c + 0) (by first | assumption | omega | (clear ex hX ih_8; grind [uZ])) (by first | assumption | omega | (clear ex hX ih_8; grind [uZ])) (by rw [sumZ_s _ h0, ← hc, fsM_eq hE hK ⟨h0, by omega⟩, ← hA9]; first | (rw [if_pos (by assumption)]; done) | (rw [if_neg (by assumption)]; done)) (by omega)
        · refine z_iconst (pc := 28) hX dX6_faults_28 ?_
          refine z_goto (pc := 29) (tgt := 33) hX (by decide) dX6_faults_29 ?_
          refine z_iadd (pc := 33) hX dX6_faults_33 ?_
          refine z_istore_n (pc := 34) hX (loc' := [(1, .int (iI (c + 1))), (0, .ref m), (2, .int (iI (i)))]) rfl (by decide) rfl dX6_faults_34 ?_
          refine z_iinc (pc := 35) hX (loc' := [(2, .int (iI (i + 1))), (1, .int (iI (c + 1))), (0, .ref m)]) 2 rfl (by decide) rfl dX6_faults_35 ?_
          refine z_goto (pc := 38) (tgt := 8) hX (by decide) dX6_faults_38 ?_
          refine z_at [2, 1, 0] [3, 4, 0, 1, 2, 5] (loc' := [(0, .ref m), (1, .int (iI ((c + 1)))), (2, .int (iI ((i + 1))))]) (WS' := [(m, .inr (6, [.int (iI (th)), .ref s1, .ref s2, .int (iI (sm)), .ref s3, .int (iI (bI (hs = true))), .ref s4, .int (iI (len)), .ref m1, .ref m2, .ref m3, .ref m4, .int (iI (ax)), .ref l1, .ref l2, .int (iI (rm)), .long (hh)])), (s1, zI G 48 (S)), (m1, zI G 20 (B1_1)), (m2, zI G 20 (N1_1)), (m3, zI G 20 (G1_1)), (m4, zI G 20 (A1_1))]) rfl (by decide) rfl ?_
          exact ih_8 (i + 1) (c + 1) (by first | assumption | omega | (clear ex hX ih_8; grind [uZ])) (by first | assumption | omega | (clear ex hX ih_8; grind [uZ])) (by rw [sumZ_s _ h0, ← hc, fsM_eq hE hK ⟨h0, by omega⟩, ← hA9]; first | (rw [if_pos (by assumption)]; done) | (rw [if_neg (by assumption)]; done)) (by omega)
  refine z_at [2, 1, 0] [0, 1, 2, 3, 4, 5] (loc' := [(0, .ref m), (1, .int (iI (0))), (2, .int (iI (0)))]) (WS' := [(m, .inr (6, [.int (iI (th)), .ref s1, .ref s2, .int (iI (sm)), .ref s3, .int (iI (bI (hs = true))), .ref s4, .int (iI (len)), .ref m1, .ref m2, .ref m3, .ref m4, .int (iI (ax)), .ref l1, .ref l2, .int (iI (rm)), .long (hh)])), (s1, zI G 48 (S)), (m1, zI G 20 (B1_1)), (m2, zI G 20 (N1_1)), (m3, zI G 20 (G1_1)), (m4, zI G 20 (A1_1))]) rfl (by decide) rfl ?_
  exact cut_8 (Int.toNat (S 7 - 0) + 1) (0) (0) (by first | assumption | omega | (clear ex hX cut_8; grind [uZ])) (by first | assumption | omega | (clear ex hX cut_8; grind [uZ])) (by rfl) (by omega)
theorem hX6_pairs_X6 : ∀ w ∈ wsX60, w ∈ wsX6_pairs := by decide +kernel
theorem kX6_pairs_f31 : Cond.fieldLink RX6 31 "SignLettersModel" "areas" "[I" ∈ wsX6_pairs := by decide +kernel
theorem kX6_pairs_f7 : Cond.fieldLink RX6 7 "SignLettersModel" "s" "[I" ∈ wsX6_pairs := by decide +kernel
set_option maxHeartbeats 400000 in
set_option maxRecDepth 100000 in
theorem mX6_pairs (G : ZG) (m : Nat) (s1 : Nat) (s2 : Nat) (s3 : Nat) (s4 : Nat) (m1 : Nat) (m2 : Nat) (m3 : Nat) (m4 : Nat) (l1 : Nat) (l2 : Nat) (th : Int) (sm : Int) (len : Int) (ax : Int) (rm : Int) (hs : Bool) (hh : Int64) (S : Int → Int) (B0 : Int → Int) (N0 : Int → Int) (G0 : Int → Int) (A : Int → Int) (hE : okE S) (hn : 0 ≤ S 7 ∧ S 7 ≤ 20) (hF : okF (sF S) (S 7)) (hK : okK (sK S) (S 7)) : zMeti yX6_pairs wsX6_pairs { frames := 6, cells := 0, slots := 0, locals := 145 } G [.ref m] [(m, .inr (6, [.int (iI (th)), .ref s1, .ref s2, .int (iI (sm)), .ref s3, .int (iI (bI (hs = true))), .ref s4, .int (iI (len)), .ref m1, .ref m2, .ref m3, .ref m4, .int (iI (ax)), .ref l1, .ref l2, .int (iI (rm)), .long (hh)])), (s1, zI G 48 (S)), (m1, zI G 20 (B0)), (m2, zI G 20 (N0)), (m3, zI G 20 (G0)), (m4, zI G 20 (A))] (fun (rr : Int32) (uu : (Int → Int) × (Int → Int) × (Int → Int) × (Int → Int)) => (rr = iI (psN (sF S) (S 7))) ∧ (lyM S uu.1 uu.2.1 uu.2.2.1 uu.2.2.2)) (fun (uu : (Int → Int) × (Int → Int) × (Int → Int) × (Int → Int)) => [(m, .inr (6, [.int (iI (th)), .ref s1, .ref s2, .int (iI (sm)), .ref s3, .int (iI (bI (hs = true))), .ref s4, .int (iI (len)), .ref m1, .ref m2, .ref m3, .ref m4, .int (iI (ax)), .ref l1, .ref l2, .int (iI (rm)), .long (hh)])), (s1, zI G 48 (S)), (m1, zI G 20 (uu.1)), (m2, zI G 20 (uu.2.1)), (m3, zI G 20 (uu.2.2.1)), (m4, zI G 20 (uu.2.2.2))]) 0 0 := by
  refine z_meti (cc := cX6_pairs) (nL := 3) (rt := .int) (by decide +kernel) rfl (Nat.le_of_ble_eq_true rfl) (fun X hX ex => ?_)
  have hX : ZOk G X 3 cX6_pairs RX6 wsX6_pairs { frames := 6, cells := 0, slots := 0, locals := 145 } := hX
  show Z G X 3 (0) (0) [(m, .inr (6, [.int (iI (th)), .ref s1, .ref s2, .int (iI (sm)), .ref s3, .int (iI (bI (hs = true))), .ref s4, .int (iI (len)), .ref m1, .ref m2, .ref m3, .ref m4, .int (iI (ax)), .ref l1, .ref l2, .int (iI (rm)), .long (hh)])), (s1, zI G 48 (S)), (m1, zI G 20 (B0)), (m2, zI G 20 (N0)), (m3, zI G 20 (G0)), (m4, zI G 20 (A))] 0 [(0, .ref m)] []
  refine z_aload_n (pc := 0) hX 0 rfl rfl dX6_pairs_0 ?_
  refine z_callV_v (pc := 1) (As := []) (rest := []) (wc := [(m, .inr (6, [.int (iI (th)), .ref s1, .ref s2, .int (iI (sm)), .ref s3, .int (iI (bI (hs = true))), .ref s4, .int (iI (len)), .ref m1, .ref m2, .ref m3, .ref m4, .int (iI (ax)), .ref l1, .ref l2, .int (iI (rm)), .long (hh)])), (s1, zI G 48 (S)), (m1, zI G 20 (B0)), (m2, zI G 20 (N0)), (m3, zI G 20 (G0)), (m4, zI G 20 (A))]) (wr := []) hX (mX6_lays G (m) (s1) (s2) (s3) (s4) (m1) (m2) (m3) (m4) (l1) (l2) (th) (sm) (len) (ax) (rm) (hs) (hh) (S) (B0) (N0) (G0) (A) (by first | assumption | omega | (clear ex hX; grind [uZ])) (by first | assumption | omega | (clear ex hX; grind [uZ])) (by first | assumption | omega | (clear ex hX; grind [uZ])) (by first | assumption | omega | (clear ex hX; grind [uZ]))) rfl rfl rfl (C := RX6) gX6_pairs_X6_lays ⟨rfl, hdX6_lays⟩ (T := TX6) (N := 17) 0 rfl rfl ⟨Nat.le_of_ble_eq_true rfl, Nat.le_of_ble_eq_true rfl⟩ [0, 1, 2, 3, 4, 5] [] rfl rfl (by decide) (by decide) (by decide) rfl (Nat.le_of_ble_eq_true rfl) ⟨Nat.le_of_ble_eq_true rfl, Nat.le_of_ble_eq_true rfl⟩ dX6_pairs_1 (fun u_1 h_1 => ?_)
  obtain ⟨B1_1, N1_1, G1_1, A1_1⟩ := u_1
  try dsimp only at h_1
  have hly_1 := h_1
  show Z G X 3 (0) (0) [(m, .inr (6, [.int (iI (th)), .ref s1, .ref s2, .int (iI (sm)), .ref s3, .int (iI (bI (hs = true))), .ref s4, .int (iI (len)), .ref m1, .ref m2, .ref m3, .ref m4, .int (iI (ax)), .ref l1, .ref l2, .int (iI (rm)), .long (hh)])), (s1, zI G 48 (S)), (m1, zI G 20 (B1_1)), (m2, zI G 20 (N1_1)), (m3, zI G 20 (G1_1)), (m4, zI G 20 (A1_1))] 4 [(0, .ref m)] []
  obtain ⟨g1, g2, g3, g4⟩ := id hly_1
  refine z_iconst (pc := 4) hX dX6_pairs_4 ?_
  refine z_istore_n (pc := 5) hX (loc' := [(1, .int (iI (0))), (0, .ref m)]) rfl (by decide) rfl dX6_pairs_5 ?_
  refine z_iconst (pc := 6) hX dX6_pairs_6 ?_
  refine z_istore_n (pc := 7) hX (loc' := [(2, .int (iI (0))), (1, .int (iI (0))), (0, .ref m)]) rfl (by decide) rfl dX6_pairs_7 ?_
  have cut_8 : ∀ (fz : Nat) (i : Int) (c : Int) (h0 : 0 ≤ i) (h1 : i ≤ S 7) (hc : c = sumZ (psF (sF S) (S 7)) i.toNat) (hm_8 : S 7 - i < (fz : Int)), Z G X 3 (0) (0) [(m, .inr (6, [.int (iI (th)), .ref s1, .ref s2, .int (iI (sm)), .ref s3, .int (iI (bI (hs = true))), .ref s4, .int (iI (len)), .ref m1, .ref m2, .ref m3, .ref m4, .int (iI (ax)), .ref l1, .ref l2, .int (iI (rm)), .long (hh)])), (s1, zI G 48 (S)), (m1, zI G 20 (B1_1)), (m2, zI G 20 (N1_1)), (m3, zI G 20 (G1_1)), (m4, zI G 20 (A1_1))] 8 [(0, .ref m), (1, .int (iI (c))), (2, .int (iI (i)))] [] := by
    intro fz
    induction fz with
    | zero =>
      intro i c h0 h1 hc hm_8
      exfalso
      omega
    | succ fz ih =>
      intro i c h0 h1 hc hm_8
      have ih_8 := ih
      clear ih
      refine z_iload_n (pc := 8) hX 2 rfl rfl dX6_pairs_8 ?_
      refine z_aload_n (pc := 9) hX 0 rfl rfl dX6_pairs_9 ?_
      refine z_get (pc := 10) hX (T := TX6) (C := RX6) (N := 17) (i := 7) (ref := "SignLettersModel") (name := "s") (desc := "[I") hX6_pairs_X6 0 rfl rfl 1 (by decide) kX6_pairs_f7 ⟨rfl, rfl, rfl⟩ (v := .ref s1) rfl dX6_pairs_10 ?_
      refine z_bipush (pc := 13) hX (z := 7) (by decide +kernel) dX6_pairs_13 ?_
      refine z_iald (pc := 15) hX (N := 48) (F := S) 1 rfl (by omega) (by omega) dX6_pairs_15 ?_
      refine z_icmp_ge (pc := 16) (tgt := 43) hX (by decide) (by omega) (by omega) dX6_pairs_16 (fun c_2 => ?_) (fun c_2 => ?_)
      · refine z_iload_n (pc := 43) hX 1 rfl rfl dX6_pairs_43 ?_
        exact ex _ _ _ ((B1_1), (N1_1), (G1_1), (A1_1)) _ dX6_pairs_44 rfl ⟨(congrArg iI (show (c : Int) = psN (sF S) (S 7) from by rw [hc, show i = S 7 by omega]; rfl)), (by assumption)⟩ rfl
      · have hA9 := g4 i h0 (by omega)
        have har := arA_r (F := sF S) (p := i) hE hK ⟨h0, by omega⟩
        refine z_iload_n (pc := 19) hX 1 rfl rfl dX6_pairs_19 ?_
        refine z_aload_n (pc := 20) hX 0 rfl rfl dX6_pairs_20 ?_
        refine z_get (pc := 21) hX (T := TX6) (C := RX6) (N := 17) (i := 31) (ref := "SignLettersModel") (name := "areas") (desc := "[I") hX6_pairs_X6 0 rfl rfl 11 (by decide) kX6_pairs_f31 ⟨rfl, rfl, rfl⟩ (v := .ref m4) rfl dX6_pairs_21 ?_
        refine z_iload_n (pc := 24) hX 2 rfl rfl dX6_pairs_24 ?_
        refine z_iald (pc := 25) hX (N := 20) (F := A1_1) 5 rfl (by omega) (by omega) dX6_pairs_25 ?_
        refine z_iconst (pc := 26) hX dX6_pairs_26 ?_
        refine z_icmp_eq (pc := 27) (tgt := 34) hX (by decide) (by omega) (by omega) dX6_pairs_27 (fun c_3 => ?_) (fun c_3 => ?_)
        · refine z_iconst (pc := 34) hX dX6_pairs_34 ?_
          refine z_iadd (pc := 35) hX dX6_pairs_35 ?_
          refine z_istore_n (pc := 36) hX (loc' := [(1, .int (iI (c + 0))), (0, .ref m), (2, .int (iI (i)))]) rfl (by decide) rfl dX6_pairs_36 ?_
          refine z_iinc (pc := 37) hX (loc' := [(2, .int (iI (i + 1))), (1, .int (iI (c + 0))), (0, .ref m)]) 2 rfl (by decide) rfl dX6_pairs_37 ?_
          refine z_goto (pc := 40) (tgt := 8) hX (by decide) dX6_pairs_40 ?_
          refine z_at [2, 1, 0] [0, 1, 2, 3, 4, 5] (loc' := [(0, .ref m), (1, .int (iI ((c + 0)))), (2, .int (iI ((i + 1))))]) (WS' := [(m, .inr (6, [.int (iI (th)), .ref s1, .ref s2, .int (iI (sm)), .ref s3, .int (iI (bI (hs = true))), .ref s4, .int (iI (len)), .ref m1, .ref m2, .ref m3, .ref m4, .int (iI (ax)), .ref l1, .ref l2, .int (iI (rm)), .long (hh)])), (s1, zI G 48 (S)), (m1, zI G 20 (B1_1)), (m2, zI G 20 (N1_1)), (m3, zI G 20 (G1_1)), (m4, zI G 20 (A1_1))]) rfl (by decide) rfl ?_
          exact ih_8 (i + 1) (c + 0) (by first | assumption | omega | (clear ex hX ih_8; grind [uZ])) (by first | assumption | omega | (clear ex hX ih_8; grind [uZ])) (by rw [sumZ_s _ h0, ← hc, psM_eq hE hK ⟨h0, by omega⟩, ← hA9]; first | (rw [if_pos (by omega)]; done) | (rw [if_neg (by omega)]; done)) (by omega)
        · refine z_iconst (pc := 30) hX dX6_pairs_30 ?_
          refine z_goto (pc := 31) (tgt := 35) hX (by decide) dX6_pairs_31 ?_
          refine z_iadd (pc := 35) hX dX6_pairs_35 ?_
          refine z_istore_n (pc := 36) hX (loc' := [(1, .int (iI (c + 1))), (0, .ref m), (2, .int (iI (i)))]) rfl (by decide) rfl dX6_pairs_36 ?_
          refine z_iinc (pc := 37) hX (loc' := [(2, .int (iI (i + 1))), (1, .int (iI (c + 1))), (0, .ref m)]) 2 rfl (by decide) rfl dX6_pairs_37 ?_
          refine z_goto (pc := 40) (tgt := 8) hX (by decide) dX6_pairs_40 ?_
          refine z_at [2, 1, 0] [0, 1, 2, 3, 4, 5] (loc' := [(0, .ref m), (1, .int (iI ((c + 1)))), (2, .int (iI ((i + 1))))]) (WS' := [(m, .inr (6, [.int (iI (th)), .ref s1, .ref s2, .int (iI (sm)), .ref s3, .int (iI (bI (hs = true))), .ref s4, .int (iI (len)), .ref m1, .ref m2, .ref m3, .ref m4, .int (iI (ax)), .ref l1, .ref l2, .int (iI (rm)), .long (hh)])), (s1, zI G 48 (S)), (m1, zI G 20 (B1_1)), (m2, zI G 20 (N1_1)), (m3, zI G 20 (G1_1)), (m4, zI G 20 (A1_1))]) rfl (by decide) rfl ?_
          exact ih_8 (i + 1) (c + 1) (by first | assumption | omega | (clear ex hX ih_8; grind [uZ])) (by first | assumption | omega | (clear ex hX ih_8; grind [uZ])) (by rw [sumZ_s _ h0, ← hc, psM_eq hE hK ⟨h0, by omega⟩, ← hA9]; first | (rw [if_pos (by omega)]; done) | (rw [if_neg (by omega)]; done)) (by omega)
  refine z_at [2, 1, 0] [0, 1, 2, 3, 4, 5] (loc' := [(0, .ref m), (1, .int (iI (0))), (2, .int (iI (0)))]) (WS' := [(m, .inr (6, [.int (iI (th)), .ref s1, .ref s2, .int (iI (sm)), .ref s3, .int (iI (bI (hs = true))), .ref s4, .int (iI (len)), .ref m1, .ref m2, .ref m3, .ref m4, .int (iI (ax)), .ref l1, .ref l2, .int (iI (rm)), .long (hh)])), (s1, zI G 48 (S)), (m1, zI G 20 (B1_1)), (m2, zI G 20 (N1_1)), (m3, zI G 20 (G1_1)), (m4, zI G 20 (A1_1))]) rfl (by decide) rfl ?_
  exact cut_8 (Int.toNat (S 7 - 0) + 1) (0) (0) (by first | assumption | omega | (clear ex hX cut_8; grind [uZ])) (by first | assumption | omega | (clear ex hX cut_8; grind [uZ])) (by rfl) (by omega)
theorem hX6_letters_X6 : ∀ w ∈ wsX60, w ∈ wsX6_letters := by decide +kernel
theorem kX6_letters_f7 : Cond.fieldLink RX6 7 "SignLettersModel" "s" "[I" ∈ wsX6_letters := by decide +kernel
set_option maxHeartbeats 400000 in
set_option maxRecDepth 100000 in
theorem mX6_letters (G : ZG) (m : Nat) (s1 : Nat) (s2 : Nat) (s3 : Nat) (s4 : Nat) (m1 : Nat) (m2 : Nat) (m3 : Nat) (m4 : Nat) (l1 : Nat) (l2 : Nat) (th : Int) (sm : Int) (len : Int) (ax : Int) (rm : Int) (hs : Bool) (hh : Int64) (S : Int → Int) (hn : 0 ≤ S 7 ∧ S 7 ≤ 20) (hF : okF (sF S) (S 7)) : zMeti yX6_letters wsX6_letters { frames := 3, cells := 0, slots := 0, locals := 64 } G [.ref m] [(m, .inr (6, [.int (iI (th)), .ref s1, .ref s2, .int (iI (sm)), .ref s3, .int (iI (bI (hs = true))), .ref s4, .int (iI (len)), .ref m1, .ref m2, .ref m3, .ref m4, .int (iI (ax)), .ref l1, .ref l2, .int (iI (rm)), .long (hh)])), (s1, zI G 48 (S))] (fun (rr : Int32) (uu : Unit) => rr = iI (sumZ (cntF (sF S)) (Int.toNat (S 7)))) (fun (uu : Unit) => [(m, .inr (6, [.int (iI (th)), .ref s1, .ref s2, .int (iI (sm)), .ref s3, .int (iI (bI (hs = true))), .ref s4, .int (iI (len)), .ref m1, .ref m2, .ref m3, .ref m4, .int (iI (ax)), .ref l1, .ref l2, .int (iI (rm)), .long (hh)])), (s1, zI G 48 (S))]) 0 0 := by
  refine z_meti (cc := cX6_letters) (nL := 3) (rt := .int) (by decide +kernel) rfl (Nat.le_of_ble_eq_true rfl) (fun X hX ex => ?_)
  have hX : ZOk G X 3 cX6_letters RX6 wsX6_letters { frames := 3, cells := 0, slots := 0, locals := 64 } := hX
  show Z G X 3 (0) (0) [(m, .inr (6, [.int (iI (th)), .ref s1, .ref s2, .int (iI (sm)), .ref s3, .int (iI (bI (hs = true))), .ref s4, .int (iI (len)), .ref m1, .ref m2, .ref m3, .ref m4, .int (iI (ax)), .ref l1, .ref l2, .int (iI (rm)), .long (hh)])), (s1, zI G 48 (S))] 0 [(0, .ref m)] []
  refine z_iconst (pc := 0) hX dX6_letters_0 ?_
  refine z_istore_n (pc := 1) hX (loc' := [(1, .int (iI (0))), (0, .ref m)]) rfl (by decide) rfl dX6_letters_1 ?_
  refine z_iconst (pc := 2) hX dX6_letters_2 ?_
  refine z_istore_n (pc := 3) hX (loc' := [(2, .int (iI (0))), (1, .int (iI (0))), (0, .ref m)]) rfl (by decide) rfl dX6_letters_3 ?_
  have cut_4 : ∀ (fz : Nat) (i : Int) (c : Int) (h0 : 0 ≤ i) (h1 : i ≤ S 7) (hc : c = sumZ (cntF (sF S)) i.toNat) (hm_4 : S 7 - i < (fz : Int)), Z G X 3 (0) (0) [(m, .inr (6, [.int (iI (th)), .ref s1, .ref s2, .int (iI (sm)), .ref s3, .int (iI (bI (hs = true))), .ref s4, .int (iI (len)), .ref m1, .ref m2, .ref m3, .ref m4, .int (iI (ax)), .ref l1, .ref l2, .int (iI (rm)), .long (hh)])), (s1, zI G 48 (S))] 4 [(0, .ref m), (1, .int (iI (c))), (2, .int (iI (i)))] [] := by
    intro fz
    induction fz with
    | zero =>
      intro i c h0 h1 hc hm_4
      exfalso
      omega
    | succ fz ih =>
      intro i c h0 h1 hc hm_4
      have ih_4 := ih
      clear ih
      refine z_iload_n (pc := 4) hX 2 rfl rfl dX6_letters_4 ?_
      refine z_aload_n (pc := 5) hX 0 rfl rfl dX6_letters_5 ?_
      refine z_get (pc := 6) hX (T := TX6) (C := RX6) (N := 17) (i := 7) (ref := "SignLettersModel") (name := "s") (desc := "[I") hX6_letters_X6 0 rfl rfl 1 (by decide) kX6_letters_f7 ⟨rfl, rfl, rfl⟩ (v := .ref s1) rfl dX6_letters_6 ?_
      refine z_bipush (pc := 9) hX (z := 7) (by decide +kernel) dX6_letters_9 ?_
      refine z_iald (pc := 11) hX (N := 48) (F := S) 1 rfl (by omega) (by omega) dX6_letters_11 ?_
      refine z_icmp_ge (pc := 12) (tgt := 37) hX (by decide) (by omega) (by omega) dX6_letters_12 (fun c_1 => ?_) (fun c_1 => ?_)
      · refine z_iload_n (pc := 37) hX 1 rfl rfl dX6_letters_37 ?_
        exact ex _ _ _ () _ dX6_letters_38 rfl (congrArg iI (show (c : Int) = sumZ (cntF (sF S)) (Int.toNat (S 7)) from by rw [hc, show i = S 7 by omega])) rfl
      · refine z_iload_n (pc := 15) hX 1 rfl rfl dX6_letters_15 ?_
        refine z_aload_n (pc := 16) hX 0 rfl rfl dX6_letters_16 ?_
        refine z_iload_n (pc := 17) hX 2 rfl rfl dX6_letters_17 ?_
        refine z_callV_i (pc := 18) (As := [.int (iI (i))]) (rest := [.int (iI (c))]) (wc := [(m, .inr (6, [.int (iI (th)), .ref s1, .ref s2, .int (iI (sm)), .ref s3, .int (iI (bI (hs = true))), .ref s4, .int (iI (len)), .ref m1, .ref m2, .ref m3, .ref m4, .int (iI (ax)), .ref l1, .ref l2, .int (iI (rm)), .long (hh)])), (s1, zI G 48 (S))]) (wr := []) hX (mX6_isLetter G (m) (s1) (s2) (s3) (s4) (m1) (m2) (m3) (m4) (l1) (l2) (th) (sm) (len) (ax) (rm) (hs) (hh) (S) (i) (by first | assumption | omega | (clear ex hX ih_4; grind [uZ])) (by first | assumption | omega | (clear ex hX ih_4; grind [uZ])) (by first | assumption | omega | (clear ex hX ih_4; grind [uZ]))) rfl rfl rfl (C := RX6) gX6_letters_X6_isLetter ⟨rfl, hdX6_isLetter⟩ (T := TX6) (N := 17) 0 rfl rfl ⟨Nat.le_of_ble_eq_true rfl, Nat.le_of_ble_eq_true rfl⟩ [0, 1] [] rfl rfl (by decide) (by decide) (by decide) rfl (Nat.le_of_ble_eq_true rfl) ⟨Nat.le_of_ble_eq_true rfl, Nat.le_of_ble_eq_true rfl⟩ dX6_letters_18 (fun r_2 u_2 h_2 => ?_)
        subst h_2
        show Z G X 3 (0) (0) [(m, .inr (6, [.int (iI (th)), .ref s1, .ref s2, .int (iI (sm)), .ref s3, .int (iI (bI (hs = true))), .ref s4, .int (iI (len)), .ref m1, .ref m2, .ref m3, .ref m4, .int (iI (ax)), .ref l1, .ref l2, .int (iI (rm)), .long (hh)])), (s1, zI G 48 (S))] 21 [(0, .ref m), (1, .int (iI (c))), (2, .int (iI (i)))] [.int (iI (bI (letA (sF S) (S 7) i ≠ -1))), .int (iI (c))]
        refine z_bif_eq (pc := 21) (tgt := 28) hX (by decide) dX6_letters_21 (fun c_3 => ?_) (fun c_3 => ?_)
        · refine z_iconst (pc := 28) hX dX6_letters_28 ?_
          refine z_iadd (pc := 29) hX dX6_letters_29 ?_
          refine z_istore_n (pc := 30) hX (loc' := [(1, .int (iI (c + 0))), (0, .ref m), (2, .int (iI (i)))]) rfl (by decide) rfl dX6_letters_30 ?_
          refine z_iinc (pc := 31) hX (loc' := [(2, .int (iI (i + 1))), (1, .int (iI (c + 0))), (0, .ref m)]) 2 rfl (by decide) rfl dX6_letters_31 ?_
          refine z_goto (pc := 34) (tgt := 4) hX (by decide) dX6_letters_34 ?_
          refine z_at [2, 1, 0] [0, 1] (loc' := [(0, .ref m), (1, .int (iI ((c + 0)))), (2, .int (iI ((i + 1))))]) (WS' := [(m, .inr (6, [.int (iI (th)), .ref s1, .ref s2, .int (iI (sm)), .ref s3, .int (iI (bI (hs = true))), .ref s4, .int (iI (len)), .ref m1, .ref m2, .ref m3, .ref m4, .int (iI (ax)), .ref l1, .ref l2, .int (iI (rm)), .long (hh)])), (s1, zI G 48 (S))]) rfl (by decide) rfl ?_
          exact ih_4 (i + 1) (c + 0) (by first | assumption | omega | (clear ex hX ih_4; grind [uZ])) (by first | assumption | omega | (clear ex hX ih_4; grind [uZ])) (by rw [sumZ_s _ h0, ← hc, cntM_eq (n := S 7) ⟨h0, by omega⟩]; first | (rw [if_pos (by assumption)]; done) | (rw [if_neg (by assumption)]; done)) (by omega)
        · refine z_iconst (pc := 24) hX dX6_letters_24 ?_
          refine z_goto (pc := 25) (tgt := 29) hX (by decide) dX6_letters_25 ?_
          refine z_iadd (pc := 29) hX dX6_letters_29 ?_
          refine z_istore_n (pc := 30) hX (loc' := [(1, .int (iI (c + 1))), (0, .ref m), (2, .int (iI (i)))]) rfl (by decide) rfl dX6_letters_30 ?_
          refine z_iinc (pc := 31) hX (loc' := [(2, .int (iI (i + 1))), (1, .int (iI (c + 1))), (0, .ref m)]) 2 rfl (by decide) rfl dX6_letters_31 ?_
          refine z_goto (pc := 34) (tgt := 4) hX (by decide) dX6_letters_34 ?_
          refine z_at [2, 1, 0] [0, 1] (loc' := [(0, .ref m), (1, .int (iI ((c + 1)))), (2, .int (iI ((i + 1))))]) (WS' := [(m, .inr (6, [.int (iI (th)), .ref s1, .ref s2, .int (iI (sm)), .ref s3, .int (iI (bI (hs = true))), .ref s4, .int (iI (len)), .ref m1, .ref m2, .ref m3, .ref m4, .int (iI (ax)), .ref l1, .ref l2, .int (iI (rm)), .long (hh)])), (s1, zI G 48 (S))]) rfl (by decide) rfl ?_
          exact ih_4 (i + 1) (c + 1) (by first | assumption | omega | (clear ex hX ih_4; grind [uZ])) (by first | assumption | omega | (clear ex hX ih_4; grind [uZ])) (by rw [sumZ_s _ h0, ← hc, cntM_eq (n := S 7) ⟨h0, by omega⟩]; first | (rw [if_pos (by assumption)]; done) | (rw [if_neg (by assumption)]; done)) (by omega)
  refine z_at [2, 1, 0] [0, 1] (loc' := [(0, .ref m), (1, .int (iI (0))), (2, .int (iI (0)))]) (WS' := [(m, .inr (6, [.int (iI (th)), .ref s1, .ref s2, .int (iI (sm)), .ref s3, .int (iI (bI (hs = true))), .ref s4, .int (iI (len)), .ref m1, .ref m2, .ref m3, .ref m4, .int (iI (ax)), .ref l1, .ref l2, .int (iI (rm)), .long (hh)])), (s1, zI G 48 (S))]) rfl (by decide) rfl ?_
  exact cut_4 (Int.toNat (S 7 - 0) + 1) (0) (0) (by first | assumption | omega | (clear ex hX cut_4; grind [uZ])) (by first | assumption | omega | (clear ex hX cut_4; grind [uZ])) (by rfl) (by omega)
theorem hX6_saves_X6 : ∀ w ∈ wsX60, w ∈ wsX6_saves := by decide +kernel
theorem kX6_saves_f13 : Cond.fieldLink RX6 13 "SignLettersModel" "saved" "[I" ∈ wsX6_saves := by decide +kernel
theorem kX6_saves_f52 : Cond.fieldLink RX6 52 "SignLettersModel" "savedMany" "I" ∈ wsX6_saves := by decide +kernel
theorem kX6_saves_f7 : Cond.fieldLink RX6 7 "SignLettersModel" "s" "[I" ∈ wsX6_saves := by decide +kernel
set_option maxHeartbeats 400000 in
set_option maxRecDepth 100000 in
theorem mX6_saves (G : ZG) (m : Nat) (s1 : Nat) (s2 : Nat) (s3 : Nat) (s4 : Nat) (m1 : Nat) (m2 : Nat) (m3 : Nat) (m4 : Nat) (l1 : Nat) (l2 : Nat) (th : Int) (sm : Int) (len : Int) (ax : Int) (rm : Int) (hs : Bool) (hh : Int64) (S : Int → Int) (V : Int → Int) (hsm : 0 ≤ sm ∧ sm ≤ 6) : zMetv yX6_saves wsX6_saves { frames := 0, cells := 0, slots := 0, locals := 0 } G [.ref m] [(m, .inr (6, [.int (iI (th)), .ref s1, .ref s2, .int (iI (sm)), .ref s3, .int (iI (bI (hs = true))), .ref s4, .int (iI (len)), .ref m1, .ref m2, .ref m3, .ref m4, .int (iI (ax)), .ref l1, .ref l2, .int (iI (rm)), .long (hh)])), (s2, zI G 288 (V)), (s1, zI G 48 (S))] (fun (uu : Unit) => True) (fun (uu : Unit) => [(m, .inr (6, [.int (iI (th)), .ref s1, .ref s2, .int (iI (pSz sm + 1)), .ref s3, .int (iI (bI (hs = true))), .ref s4, .int (iI (len)), .ref m1, .ref m2, .ref m3, .ref m4, .int (iI (ax)), .ref l1, .ref l2, .int (iI (rm)), .long (hh)])), (s2, zI G 288 (svS V sm S)), (s1, zI G 48 (S))]) 0 0 := by
  refine z_metv (cc := cX6_saves) (nL := 2) (by decide +kernel) rfl (Nat.le_of_ble_eq_true rfl) (fun X hX ex => ?_)
  have hX : ZOk G X 2 cX6_saves RX6 wsX6_saves { frames := 0, cells := 0, slots := 0, locals := 0 } := hX
  show Z G X 2 (0) (0) [(m, .inr (6, [.int (iI (th)), .ref s1, .ref s2, .int (iI (sm)), .ref s3, .int (iI (bI (hs = true))), .ref s4, .int (iI (len)), .ref m1, .ref m2, .ref m3, .ref m4, .int (iI (ax)), .ref l1, .ref l2, .int (iI (rm)), .long (hh)])), (s2, zI G 288 (V)), (s1, zI G 48 (S))] 0 [(0, .ref m)] []
  have hpz := pSz_r hsm
  have hpz2 : (6 ≤ sm ∧ pSz sm = 5) ∨ (¬ 6 ≤ sm ∧ pSz sm = sm) := by unfold pSz; split <;> omega
  have cut_49 : ∀ (V1 : Int → Int) (hV1 : ∀ j : Int, 0 ≤ j → j < 288 → V1 j = if 6 ≤ sm ∧ j < 240 then V (j + 48) else V j), Z G X 2 (0) (0) [(m, .inr (6, [.int (iI (th)), .ref s1, .ref s2, .int (iI (pSz sm)), .ref s3, .int (iI (bI (hs = true))), .ref s4, .int (iI (len)), .ref m1, .ref m2, .ref m3, .ref m4, .int (iI (ax)), .ref l1, .ref l2, .int (iI (rm)), .long (hh)])), (s2, zI G 288 (V1)), (s1, zI G 48 (S))] 49 [(0, .ref m)] [] := by
    intro V1 hV1
    refine z_iconst (pc := 49) hX dX6_saves_49 ?_
    refine z_istore_n (pc := 50) hX (loc' := [(1, .int (iI (0))), (0, .ref m)]) rfl (by decide) rfl dX6_saves_50 ?_
    have cut_51 : ∀ (fz : Nat) (k : Int) (V3 : Int → Int) (k0 : 0 ≤ k) (k1 : k ≤ 48) (hV3 : ∀ j : Int, 0 ≤ j → j < 288 → V3 j = if 48 * pSz sm ≤ j ∧ j < 48 * pSz sm + k then S (j - 48 * pSz sm) else if 6 ≤ sm ∧ j < 240 then V (j + 48) else V j) (hm_51 : 48 - k < (fz : Int)), Z G X 2 (0) (0) [(m, .inr (6, [.int (iI (th)), .ref s1, .ref s2, .int (iI (pSz sm)), .ref s3, .int (iI (bI (hs = true))), .ref s4, .int (iI (len)), .ref m1, .ref m2, .ref m3, .ref m4, .int (iI (ax)), .ref l1, .ref l2, .int (iI (rm)), .long (hh)])), (s2, zI G 288 (V3)), (s1, zI G 48 (S))] 51 [(0, .ref m), (1, .int (iI (k)))] [] := by
      intro fz
      induction fz with
      | zero =>
        intro k V3 k0 k1 hV3 hm_51
        exfalso
        omega
      | succ fz ih =>
        intro k V3 k0 k1 hV3 hm_51
        have ih_51 := ih
        clear ih
        refine z_iload_n (pc := 51) hX 1 rfl rfl dX6_saves_51 ?_
        refine z_bipush (pc := 52) hX (z := 48) (by decide +kernel) dX6_saves_52 ?_
        refine z_icmp_ge (pc := 54) (tgt := 83) hX (by decide) (by omega) (by omega) dX6_saves_54 (fun c_1 => ?_) (fun c_1 => ?_)
        · refine z_aload_n (pc := 83) hX 0 rfl rfl dX6_saves_83 ?_
          refine z_dup (pc := 84) hX rfl dX6_saves_84 ?_
          refine z_get (pc := 85) hX (T := TX6) (C := RX6) (N := 17) (i := 52) (ref := "SignLettersModel") (name := "savedMany") (desc := "I") hX6_saves_X6 0 rfl rfl 3 (by decide) kX6_saves_f52 ⟨rfl, rfl, rfl⟩ (v := .int (iI (pSz sm))) rfl dX6_saves_85 ?_
          refine z_iconst (pc := 88) hX dX6_saves_88 ?_
          refine z_iadd (pc := 89) hX dX6_saves_89 ?_
          refine z_put (pc := 90) hX (T := TX6) (C := RX6) (N := 17) (i := 52) (ref := "SignLettersModel") (name := "savedMany") (desc := "I") (WS' := [(m, .inr (6, [.int (iI (th)), .ref s1, .ref s2, .int (iI ((pSz sm) + 1)), .ref s3, .int (iI (bI (hs = true))), .ref s4, .int (iI (len)), .ref m1, .ref m2, .ref m3, .ref m4, .int (iI (ax)), .ref l1, .ref l2, .int (iI (rm)), .long (hh)])), (s2, zI G 288 (V3)), (s1, zI G 48 (S))]) tyX6 tyX6_ok nmX6 hX6_saves_X6 0 rfl rfl 3 (by decide) kX6_saves_f52 ⟨rfl, rfl, rfl⟩ rfl (ty := .int) (by decide +kernel) rfl rfl (Nat.le_of_ble_eq_true rfl) rfl dX6_saves_90 ?_
          refine (congrArg (fun z_ : Int => Z G X 2 (0) (0) [(m, .inr (6, [.int (iI (th)), .ref s1, .ref s2, .int (iI (z_)), .ref s3, .int (iI (bI (hs = true))), .ref s4, .int (iI (len)), .ref m1, .ref m2, .ref m3, .ref m4, .int (iI (ax)), .ref l1, .ref l2, .int (iI (rm)), .long (hh)])), (s2, zI G 288 (V3)), (s1, zI G 48 (S))] 93 [(0, .ref m), (1, .int (iI (k)))] []) (show ((pSz sm) + 1 : Int) = pSz sm + 1 from by first | rfl | omega)).mpr ?_
          refine z_arrX (N := 288) (F := V3) (F1 := svS V sm S) (WS1 := [(m, .inr (6, [.int (iI (th)), .ref s1, .ref s2, .int (iI (pSz sm + 1)), .ref s3, .int (iI (bI (hs = true))), .ref s4, .int (iI (len)), .ref m1, .ref m2, .ref m3, .ref m4, .int (iI (ax)), .ref l1, .ref l2, .int (iI (rm)), .long (hh)])), (s2, zI G 288 (svS V sm S)), (s1, zI G 48 (S))]) 1 rfl (fun j hj0 hj1 => by rw [hV3 j hj0 hj1, show k = 48 by omega]; rfl) rfl ?_
          exact ex _ _ () _ dX6_saves_93 trivial rfl
        · refine z_aload_n (pc := 57) hX 0 rfl rfl dX6_saves_57 ?_
          refine z_get (pc := 58) hX (T := TX6) (C := RX6) (N := 17) (i := 13) (ref := "SignLettersModel") (name := "saved") (desc := "[I") hX6_saves_X6 0 rfl rfl 2 (by decide) kX6_saves_f13 ⟨rfl, rfl, rfl⟩ (v := .ref s2) rfl dX6_saves_58 ?_
          refine z_bipush (pc := 61) hX (z := 48) (by decide +kernel) dX6_saves_61 ?_
          refine z_aload_n (pc := 63) hX 0 rfl rfl dX6_saves_63 ?_
          refine z_get (pc := 64) hX (T := TX6) (C := RX6) (N := 17) (i := 52) (ref := "SignLettersModel") (name := "savedMany") (desc := "I") hX6_saves_X6 0 rfl rfl 3 (by decide) kX6_saves_f52 ⟨rfl, rfl, rfl⟩ (v := .int (iI (pSz sm))) rfl dX6_saves_64 ?_
          refine z_imul (pc := 67) hX dX6_saves_67 ?_
          refine z_iload_n (pc := 68) hX 1 rfl rfl dX6_saves_68 ?_
          refine z_iadd (pc := 69) hX dX6_saves_69 ?_
          refine z_aload_n (pc := 70) hX 0 rfl rfl dX6_saves_70 ?_
          refine z_get (pc := 71) hX (T := TX6) (C := RX6) (N := 17) (i := 7) (ref := "SignLettersModel") (name := "s") (desc := "[I") hX6_saves_X6 0 rfl rfl 1 (by decide) kX6_saves_f7 ⟨rfl, rfl, rfl⟩ (v := .ref s1) rfl dX6_saves_71 ?_
          refine z_iload_n (pc := 74) hX 1 rfl rfl dX6_saves_74 ?_
          refine z_iald (pc := 75) hX (N := 48) (F := S) 2 rfl (by omega) (by omega) dX6_saves_75 ?_
          refine z_iast (pc := 76) hX (N := 288) (F := V3) (WS' := [(m, .inr (6, [.int (iI (th)), .ref s1, .ref s2, .int (iI (pSz sm)), .ref s3, .int (iI (bI (hs = true))), .ref s4, .int (iI (len)), .ref m1, .ref m2, .ref m3, .ref m4, .int (iI (ax)), .ref l1, .ref l2, .int (iI (rm)), .long (hh)])), (s2, zI G 288 (uZ V3 ((48 * (pSz sm)) + k) (S k))), (s1, zI G 48 (S))]) 1 rfl (by omega) (by omega) rfl dX6_saves_76 ?_
          refine z_iinc (pc := 77) hX (loc' := [(1, .int (iI (k + 1))), (0, .ref m)]) 1 rfl (by decide) rfl dX6_saves_77 ?_
          refine z_goto (pc := 80) (tgt := 51) hX (by decide) dX6_saves_80 ?_
          refine z_at [1, 0] [0, 1, 2] (loc' := [(0, .ref m), (1, .int (iI ((k + 1))))]) (WS' := [(m, .inr (6, [.int (iI (th)), .ref s1, .ref s2, .int (iI (pSz sm)), .ref s3, .int (iI (bI (hs = true))), .ref s4, .int (iI (len)), .ref m1, .ref m2, .ref m3, .ref m4, .int (iI (ax)), .ref l1, .ref l2, .int (iI (rm)), .long (hh)])), (s2, zI G 288 ((uZ V3 ((48 * (pSz sm)) + k) (S k)))), (s1, zI G 48 (S))]) rfl (by decide) rfl ?_
          exact ih_51 (k + 1) (uZ V3 ((48 * (pSz sm)) + k) (S k)) (by first | assumption | omega | (clear ex hX ih_51; grind [uZ])) (by first | assumption | omega | (clear ex hX ih_51; grind [uZ])) (by intro j j0 j1; unfold uZ; by_cases e9 : j = 48 * pSz sm + k; (rw [if_pos e9, if_pos (show 48 * pSz sm ≤ j ∧ j < 48 * pSz sm + (k + 1) by omega), show j - 48 * pSz sm = k by omega]); (rw [if_neg e9, hV3 j j0 j1]; by_cases e8 : 48 * pSz sm ≤ j ∧ j < 48 * pSz sm + k; (rw [if_pos e8, if_pos (show 48 * pSz sm ≤ j ∧ j < 48 * pSz sm + (k + 1) by omega)]); (rw [if_neg e8, if_neg (show ¬ (48 * pSz sm ≤ j ∧ j < 48 * pSz sm + (k + 1)) by omega)]))) (by omega)
    refine z_at [1, 0] [0, 1, 2] (loc' := [(0, .ref m), (1, .int (iI (0)))]) (WS' := [(m, .inr (6, [.int (iI (th)), .ref s1, .ref s2, .int (iI (pSz sm)), .ref s3, .int (iI (bI (hs = true))), .ref s4, .int (iI (len)), .ref m1, .ref m2, .ref m3, .ref m4, .int (iI (ax)), .ref l1, .ref l2, .int (iI (rm)), .long (hh)])), (s2, zI G 288 (V1)), (s1, zI G 48 (S))]) rfl (by decide) rfl ?_
    exact cut_51 (Int.toNat (48 - 0) + 1) (0) (V1) (by first | assumption | omega | (clear ex hX cut_51; grind [uZ])) (by first | assumption | omega | (clear ex hX cut_51; grind [uZ])) (by intro j j0 j1; rw [if_neg (by omega)]; exact hV1 j j0 j1) (by omega)
  refine z_aload_n (pc := 0) hX 0 rfl rfl dX6_saves_0 ?_
  refine z_get (pc := 1) hX (T := TX6) (C := RX6) (N := 17) (i := 52) (ref := "SignLettersModel") (name := "savedMany") (desc := "I") hX6_saves_X6 0 rfl rfl 3 (by decide) kX6_saves_f52 ⟨rfl, rfl, rfl⟩ (v := .int (iI (sm))) rfl dX6_saves_1 ?_
  refine z_bipush (pc := 4) hX (z := 6) (by decide +kernel) dX6_saves_4 ?_
  refine z_icmp_ne (pc := 6) (tgt := 49) hX (by decide) (by omega) (by omega) dX6_saves_6 (fun c_2 => ?_) (fun c_2 => ?_)
  · refine (congrArg (fun z_ : Int => Z G X 2 (0) (0) [(m, .inr (6, [.int (iI (th)), .ref s1, .ref s2, .int (iI (z_)), .ref s3, .int (iI (bI (hs = true))), .ref s4, .int (iI (len)), .ref m1, .ref m2, .ref m3, .ref m4, .int (iI (ax)), .ref l1, .ref l2, .int (iI (rm)), .long (hh)])), (s2, zI G 288 (V)), (s1, zI G 48 (S))] 49 [(0, .ref m)] []) (show (sm : Int) = pSz sm from by omega)).mpr ?_
    refine z_at [0] [0, 1, 2] (loc' := [(0, .ref m)]) (WS' := [(m, .inr (6, [.int (iI (th)), .ref s1, .ref s2, .int (iI (pSz sm)), .ref s3, .int (iI (bI (hs = true))), .ref s4, .int (iI (len)), .ref m1, .ref m2, .ref m3, .ref m4, .int (iI (ax)), .ref l1, .ref l2, .int (iI (rm)), .long (hh)])), (s2, zI G 288 (V)), (s1, zI G 48 (S))]) rfl (by decide) rfl ?_
    exact cut_49 (V) (by first | (intro j j0 j1; rw [if_neg (by omega)]; done) | (intro j j0 j1; rw [hV2 j j0 j1, show k = 240 by omega]; by_cases e9 : j < 240; (rw [if_pos e9, if_pos ⟨by omega, e9⟩]); (rw [if_neg e9, if_neg (by omega)])))
  · refine z_iconst (pc := 9) hX dX6_saves_9 ?_
    refine z_istore_n (pc := 10) hX (loc' := [(1, .int (iI (0))), (0, .ref m)]) rfl (by decide) rfl dX6_saves_10 ?_
    have cut_11 : ∀ (fz : Nat) (k : Int) (V2 : Int → Int) (k0 : 0 ≤ k) (k1 : k ≤ 240) (hV2 : ∀ j : Int, 0 ≤ j → j < 288 → V2 j = if j < k then V (j + 48) else V j) (hm_11 : 240 - k < (fz : Int)), Z G X 2 (0) (0) [(m, .inr (6, [.int (iI (th)), .ref s1, .ref s2, .int (iI (sm)), .ref s3, .int (iI (bI (hs = true))), .ref s4, .int (iI (len)), .ref m1, .ref m2, .ref m3, .ref m4, .int (iI (ax)), .ref l1, .ref l2, .int (iI (rm)), .long (hh)])), (s2, zI G 288 (V2)), (s1, zI G 48 (S))] 11 [(0, .ref m), (1, .int (iI (k)))] [] := by
      intro fz
      induction fz with
      | zero =>
        intro k V2 k0 k1 hV2 hm_11
        exfalso
        omega
      | succ fz ih =>
        intro k V2 k0 k1 hV2 hm_11
        have ih_11 := ih
        clear ih
        refine z_iload_n (pc := 11) hX 1 rfl rfl dX6_saves_11 ?_
        refine z_sipush (pc := 12) hX (z := 240) (by decide +kernel) dX6_saves_12 ?_
        refine z_icmp_ge (pc := 15) (tgt := 39) hX (by decide) (by omega) (by omega) dX6_saves_15 (fun c_3 => ?_) (fun c_3 => ?_)
        · refine z_aload_n (pc := 39) hX 0 rfl rfl dX6_saves_39 ?_
          refine z_dup (pc := 40) hX rfl dX6_saves_40 ?_
          refine z_get (pc := 41) hX (T := TX6) (C := RX6) (N := 17) (i := 52) (ref := "SignLettersModel") (name := "savedMany") (desc := "I") hX6_saves_X6 0 rfl rfl 3 (by decide) kX6_saves_f52 ⟨rfl, rfl, rfl⟩ (v := .int (iI (sm))) rfl dX6_saves_41 ?_
          refine z_iconst (pc := 44) hX dX6_saves_44 ?_
          refine z_isub (pc := 45) hX dX6_saves_45 ?_
          refine z_put (pc := 46) hX (T := TX6) (C := RX6) (N := 17) (i := 52) (ref := "SignLettersModel") (name := "savedMany") (desc := "I") (WS' := [(m, .inr (6, [.int (iI (th)), .ref s1, .ref s2, .int (iI (sm - 1)), .ref s3, .int (iI (bI (hs = true))), .ref s4, .int (iI (len)), .ref m1, .ref m2, .ref m3, .ref m4, .int (iI (ax)), .ref l1, .ref l2, .int (iI (rm)), .long (hh)])), (s2, zI G 288 (V2)), (s1, zI G 48 (S))]) tyX6 tyX6_ok nmX6 hX6_saves_X6 0 rfl rfl 3 (by decide) kX6_saves_f52 ⟨rfl, rfl, rfl⟩ rfl (ty := .int) (by decide +kernel) rfl rfl (Nat.le_of_ble_eq_true rfl) rfl dX6_saves_46 ?_
          refine (congrArg (fun z_ : Int => Z G X 2 (0) (0) [(m, .inr (6, [.int (iI (th)), .ref s1, .ref s2, .int (iI (z_)), .ref s3, .int (iI (bI (hs = true))), .ref s4, .int (iI (len)), .ref m1, .ref m2, .ref m3, .ref m4, .int (iI (ax)), .ref l1, .ref l2, .int (iI (rm)), .long (hh)])), (s2, zI G 288 (V2)), (s1, zI G 48 (S))] 49 [(0, .ref m), (1, .int (iI (k)))] []) (show (sm - 1 : Int) = pSz sm from by omega)).mpr ?_
          refine z_at [0] [0, 1, 2] (loc' := [(0, .ref m)]) (WS' := [(m, .inr (6, [.int (iI (th)), .ref s1, .ref s2, .int (iI (pSz sm)), .ref s3, .int (iI (bI (hs = true))), .ref s4, .int (iI (len)), .ref m1, .ref m2, .ref m3, .ref m4, .int (iI (ax)), .ref l1, .ref l2, .int (iI (rm)), .long (hh)])), (s2, zI G 288 (V2)), (s1, zI G 48 (S))]) rfl (by decide) rfl ?_
          exact cut_49 (V2) (by first | (intro j j0 j1; rw [if_neg (by omega)]; done) | (intro j j0 j1; rw [hV2 j j0 j1, show k = 240 by omega]; by_cases e9 : j < 240; (rw [if_pos e9, if_pos ⟨by omega, e9⟩]); (rw [if_neg e9, if_neg (by omega)])))
        · refine z_aload_n (pc := 18) hX 0 rfl rfl dX6_saves_18 ?_
          refine z_get (pc := 19) hX (T := TX6) (C := RX6) (N := 17) (i := 13) (ref := "SignLettersModel") (name := "saved") (desc := "[I") hX6_saves_X6 0 rfl rfl 2 (by decide) kX6_saves_f13 ⟨rfl, rfl, rfl⟩ (v := .ref s2) rfl dX6_saves_19 ?_
          refine z_iload_n (pc := 22) hX 1 rfl rfl dX6_saves_22 ?_
          refine z_aload_n (pc := 23) hX 0 rfl rfl dX6_saves_23 ?_
          refine z_get (pc := 24) hX (T := TX6) (C := RX6) (N := 17) (i := 13) (ref := "SignLettersModel") (name := "saved") (desc := "[I") hX6_saves_X6 0 rfl rfl 2 (by decide) kX6_saves_f13 ⟨rfl, rfl, rfl⟩ (v := .ref s2) rfl dX6_saves_24 ?_
          refine z_iload_n (pc := 27) hX 1 rfl rfl dX6_saves_27 ?_
          refine z_bipush (pc := 28) hX (z := 48) (by decide +kernel) dX6_saves_28 ?_
          refine z_iadd (pc := 30) hX dX6_saves_30 ?_
          refine z_iald (pc := 31) hX (N := 288) (F := V2) 1 rfl (by omega) (by omega) dX6_saves_31 ?_
          refine z_iast (pc := 32) hX (N := 288) (F := V2) (WS' := [(m, .inr (6, [.int (iI (th)), .ref s1, .ref s2, .int (iI (sm)), .ref s3, .int (iI (bI (hs = true))), .ref s4, .int (iI (len)), .ref m1, .ref m2, .ref m3, .ref m4, .int (iI (ax)), .ref l1, .ref l2, .int (iI (rm)), .long (hh)])), (s2, zI G 288 (uZ V2 k (V2 (k + 48)))), (s1, zI G 48 (S))]) 1 rfl (by omega) (by omega) rfl dX6_saves_32 ?_
          refine z_iinc (pc := 33) hX (loc' := [(1, .int (iI (k + 1))), (0, .ref m)]) 1 rfl (by decide) rfl dX6_saves_33 ?_
          refine z_goto (pc := 36) (tgt := 11) hX (by decide) dX6_saves_36 ?_
          refine z_at [1, 0] [0, 1, 2] (loc' := [(0, .ref m), (1, .int (iI ((k + 1))))]) (WS' := [(m, .inr (6, [.int (iI (th)), .ref s1, .ref s2, .int (iI (sm)), .ref s3, .int (iI (bI (hs = true))), .ref s4, .int (iI (len)), .ref m1, .ref m2, .ref m3, .ref m4, .int (iI (ax)), .ref l1, .ref l2, .int (iI (rm)), .long (hh)])), (s2, zI G 288 ((uZ V2 k (V2 (k + 48))))), (s1, zI G 48 (S))]) rfl (by decide) rfl ?_
          exact ih_11 (k + 1) (uZ V2 k (V2 (k + 48))) (by first | assumption | omega | (clear ex hX cut_49 ih_11; grind [uZ])) (by first | assumption | omega | (clear ex hX cut_49 ih_11; grind [uZ])) (by intro j j0 j1; unfold uZ; by_cases e9 : j = k; (rw [if_pos e9, if_pos (by omega), hV2 (k + 48) (by omega) (by omega), if_neg (by omega), e9]); (rw [if_neg e9, hV2 j j0 j1]; by_cases e8 : j < k; (rw [if_pos e8, if_pos (by omega)]); (rw [if_neg e8, if_neg (by omega)]))) (by omega)
    refine z_at [1, 0] [0, 1, 2] (loc' := [(0, .ref m), (1, .int (iI (0)))]) (WS' := [(m, .inr (6, [.int (iI (th)), .ref s1, .ref s2, .int (iI (sm)), .ref s3, .int (iI (bI (hs = true))), .ref s4, .int (iI (len)), .ref m1, .ref m2, .ref m3, .ref m4, .int (iI (ax)), .ref l1, .ref l2, .int (iI (rm)), .long (hh)])), (s2, zI G 288 (V)), (s1, zI G 48 (S))]) rfl (by decide) rfl ?_
    exact cut_11 (Int.toNat (240 - 0) + 1) (0) (V) (by first | assumption | omega | (clear ex hX cut_49 cut_11; grind [uZ])) (by first | assumption | omega | (clear ex hX cut_49 cut_11; grind [uZ])) (by intro j j0 j1; rw [if_neg (by omega)]) (by omega)
theorem hX6_put_X6 : ∀ w ∈ wsX60, w ∈ wsX6_put := by decide +kernel
theorem hdX6_saves : yX6_saves.cls ≠ "java/lang/invoke/MethodHandle" ∧ yX6_saves.cls ≠ "java/lang/invoke/VarHandle" ∧ (parseMethodDescriptor yX6_saves.desc).map (fun d => d.parameters.length) = some 0 := by decide +kernel
theorem kX6_put_f40 : Cond.fieldLink RX6 40 "SignLettersModel" "thrown" "I" ∈ wsX6_put := by decide +kernel
theorem kX6_put_f7 : Cond.fieldLink RX6 7 "SignLettersModel" "s" "[I" ∈ wsX6_put := by decide +kernel
set_option maxHeartbeats 400000 in
set_option maxRecDepth 100000 in
theorem mX6_put_ok (G : ZG) (m : Nat) (s1 : Nat) (s2 : Nat) (s3 : Nat) (s4 : Nat) (m1 : Nat) (m2 : Nat) (m3 : Nat) (m4 : Nat) (l1 : Nat) (l2 : Nat) (th : Int) (sm : Int) (len : Int) (ax : Int) (rm : Int) (hs : Bool) (hh : Int64) (S : Int → Int) (V : Int → Int) (q : Int) (v : Int) (hsm : 0 ≤ sm ∧ sm ≤ 6) (hn : 0 ≤ S 7 ∧ S 7 ≤ 20) (hq : -2147483648 ≤ q ∧ q < 2147483648) (hv : -2147483648 ≤ v ∧ v < 2147483648) (ok1 : 0 ≤ q ∧ q ≤ S 7) (ok2 : -1 ≤ v ∧ v < 26) (ok3 : S 7 < 20) : zMeti yX6_put wsX6_put { frames := 1, cells := 0, slots := 0, locals := 22 } G [.ref m, .int (iI (q)), .int (iI (v))] [(m, .inr (6, [.int (iI (th)), .ref s1, .ref s2, .int (iI (sm)), .ref s3, .int (iI (bI (hs = true))), .ref s4, .int (iI (len)), .ref m1, .ref m2, .ref m3, .ref m4, .int (iI (ax)), .ref l1, .ref l2, .int (iI (rm)), .long (hh)])), (s2, zI G 288 (V)), (s1, zI G 48 (S))] (fun (rr : Int32) (uu : (Int → Int)) => (rr = iI (S 7 + 1)) ∧ (∀ j : Int, 0 ≤ j → j < 7 → uu j = S j) ∧ (uu 7 = S 7 + 1) ∧ (∀ j : Int, 0 ≤ j → j < S 7 + 1 → uu (8 + j) = insZ (sF S) q (S 7) v j) ∧ (∀ j : Int, 0 ≤ j → j < S 7 + 1 → uu (28 + j) = insZ (sK S) q (S 7) 0 j)) (fun (uu : (Int → Int)) => [(m, .inr (6, [.int (iI (0)), .ref s1, .ref s2, .int (iI (pSz sm + 1)), .ref s3, .int (iI (bI (hs = true))), .ref s4, .int (iI (len)), .ref m1, .ref m2, .ref m3, .ref m4, .int (iI (ax)), .ref l1, .ref l2, .int (iI (rm)), .long (hh)])), (s2, zI G 288 (svS V sm S)), (s1, zI G 48 (uu))]) 0 0 := by
  refine z_meti (cc := cX6_put) (nL := 4) (rt := .int) (by decide +kernel) rfl (Nat.le_of_ble_eq_true rfl) (fun X hX ex => ?_)
  have hX : ZOk G X 4 cX6_put RX6 wsX6_put { frames := 1, cells := 0, slots := 0, locals := 22 } := hX
  show Z G X 4 (0) (0) [(m, .inr (6, [.int (iI (th)), .ref s1, .ref s2, .int (iI (sm)), .ref s3, .int (iI (bI (hs = true))), .ref s4, .int (iI (len)), .ref m1, .ref m2, .ref m3, .ref m4, .int (iI (ax)), .ref l1, .ref l2, .int (iI (rm)), .long (hh)])), (s2, zI G 288 (V)), (s1, zI G 48 (S))] 0 [(0, .ref m), (1, .int (iI (q))), (2, .int (iI (v)))] []
  have ok2b : (-1) ≤ v ∧ v ≤ 25 := by omega
  have ok1b : 0 ≤ q ∧ q ≤ (S 7) := ok1
  refine z_aload_n (pc := 0) hX 0 rfl rfl dX6_put_0 ?_
  refine z_iconst (pc := 1) hX dX6_put_1 ?_
  refine z_put (pc := 2) hX (T := TX6) (C := RX6) (N := 17) (i := 40) (ref := "SignLettersModel") (name := "thrown") (desc := "I") (WS' := [(m, .inr (6, [.int (iI (0)), .ref s1, .ref s2, .int (iI (sm)), .ref s3, .int (iI (bI (hs = true))), .ref s4, .int (iI (len)), .ref m1, .ref m2, .ref m3, .ref m4, .int (iI (ax)), .ref l1, .ref l2, .int (iI (rm)), .long (hh)])), (s2, zI G 288 (V)), (s1, zI G 48 (S))]) tyX6 tyX6_ok nmX6 hX6_put_X6 0 rfl rfl 0 (by decide) kX6_put_f40 ⟨rfl, rfl, rfl⟩ rfl (ty := .int) (by decide +kernel) rfl rfl (Nat.le_of_ble_eq_true rfl) rfl dX6_put_2 ?_
  refine z_iload_n (pc := 5) hX 1 rfl rfl dX6_put_5 ?_
  refine z_iconst (pc := 6) hX dX6_put_6 ?_
  refine z_aload_n (pc := 7) hX 0 rfl rfl dX6_put_7 ?_
  refine z_get (pc := 8) hX (T := TX6) (C := RX6) (N := 17) (i := 7) (ref := "SignLettersModel") (name := "s") (desc := "[I") hX6_put_X6 0 rfl rfl 1 (by decide) kX6_put_f7 ⟨rfl, rfl, rfl⟩ (v := .ref s1) rfl dX6_put_8 ?_
  refine z_bipush (pc := 11) hX (z := 7) (by decide +kernel) dX6_put_11 ?_
  refine z_iald (pc := 13) hX (N := 48) (F := S) 2 rfl (by omega) (by omega) dX6_put_13 ?_
  refine z_callS_i (pc := 14) (As := [.int (iI (q)), .int (iI (0)), .int (iI (S 7))]) (rest := []) (wc := []) (wr := [(m, .inr (6, [.int (iI (0)), .ref s1, .ref s2, .int (iI (sm)), .ref s3, .int (iI (bI (hs = true))), .ref s4, .int (iI (len)), .ref m1, .ref m2, .ref m3, .ref m4, .int (iI (ax)), .ref l1, .ref l2, .int (iI (rm)), .long (hh)])), (s2, zI G 288 (V)), (s1, zI G 48 (S))]) hX (mX6_in G (q) (0) (S 7) (by first | assumption | omega | (clear ex hX; grind [uZ])) (by first | assumption | omega | (clear ex hX; grind [uZ])) (by first | assumption | omega | (clear ex hX; grind [uZ]))) rfl rfl rfl gX6_put_X6_in hdX6_in ⟨Nat.le_of_ble_eq_true rfl, Nat.le_of_ble_eq_true rfl⟩ [] [0, 1, 2] rfl rfl (by decide) (by decide) (by decide) rfl (Nat.le_of_ble_eq_true rfl) ⟨Nat.le_of_ble_eq_true rfl, Nat.le_of_ble_eq_true rfl⟩ dX6_put_14 (fun r_1 u_1 h_1 => ?_)
  subst h_1
  show Z G X 4 (0) (0) [(m, .inr (6, [.int (iI (0)), .ref s1, .ref s2, .int (iI (sm)), .ref s3, .int (iI (bI (hs = true))), .ref s4, .int (iI (len)), .ref m1, .ref m2, .ref m3, .ref m4, .int (iI (ax)), .ref l1, .ref l2, .int (iI (rm)), .long (hh)])), (s2, zI G 288 (V)), (s1, zI G 48 (S))] 17 [(0, .ref m), (1, .int (iI (q))), (2, .int (iI (v)))] [.int (iI (bI (0 ≤ q ∧ q ≤ (S 7))))]
  refine z_bif_ne (pc := 17) (tgt := 26) hX (by decide) dX6_put_17 (fun c_2 => ?_) (fun c_2 => by first | exact absurd c_2 ok1b | exact absurd ok1b c_2)
  refine z_iload_n (pc := 26) hX 2 rfl rfl dX6_put_26 ?_
  refine z_iconst (pc := 27) hX dX6_put_27 ?_
  refine z_bipush (pc := 28) hX (z := 25) (by decide +kernel) dX6_put_28 ?_
  refine z_callS_i (pc := 30) (As := [.int (iI (v)), .int (iI ((-1))), .int (iI (25))]) (rest := []) (wc := []) (wr := [(m, .inr (6, [.int (iI (0)), .ref s1, .ref s2, .int (iI (sm)), .ref s3, .int (iI (bI (hs = true))), .ref s4, .int (iI (len)), .ref m1, .ref m2, .ref m3, .ref m4, .int (iI (ax)), .ref l1, .ref l2, .int (iI (rm)), .long (hh)])), (s2, zI G 288 (V)), (s1, zI G 48 (S))]) hX (mX6_in G (v) (-1) (25) (by first | assumption | omega | (clear ex hX; grind [uZ])) (by first | assumption | omega | (clear ex hX; grind [uZ])) (by first | assumption | omega | (clear ex hX; grind [uZ]))) rfl rfl rfl gX6_put_X6_in hdX6_in ⟨Nat.le_of_ble_eq_true rfl, Nat.le_of_ble_eq_true rfl⟩ [] [0, 1, 2] rfl rfl (by decide) (by decide) (by decide) rfl (Nat.le_of_ble_eq_true rfl) ⟨Nat.le_of_ble_eq_true rfl, Nat.le_of_ble_eq_true rfl⟩ dX6_put_30 (fun r_3 u_3 h_3 => ?_)
  subst h_3
  show Z G X 4 (0) (0) [(m, .inr (6, [.int (iI (0)), .ref s1, .ref s2, .int (iI (sm)), .ref s3, .int (iI (bI (hs = true))), .ref s4, .int (iI (len)), .ref m1, .ref m2, .ref m3, .ref m4, .int (iI (ax)), .ref l1, .ref l2, .int (iI (rm)), .long (hh)])), (s2, zI G 288 (V)), (s1, zI G 48 (S))] 33 [(0, .ref m), (1, .int (iI (q))), (2, .int (iI (v)))] [.int (iI (bI ((-1) ≤ v ∧ v ≤ 25)))]
  refine z_bif_ne (pc := 33) (tgt := 42) hX (by decide) dX6_put_33 (fun c_4 => ?_) (fun c_4 => by first | exact absurd c_4 ok2b | exact absurd ok2b c_4)
  refine z_aload_n (pc := 42) hX 0 rfl rfl dX6_put_42 ?_
  refine z_get (pc := 43) hX (T := TX6) (C := RX6) (N := 17) (i := 7) (ref := "SignLettersModel") (name := "s") (desc := "[I") hX6_put_X6 0 rfl rfl 1 (by decide) kX6_put_f7 ⟨rfl, rfl, rfl⟩ (v := .ref s1) rfl dX6_put_43 ?_
  refine z_bipush (pc := 46) hX (z := 7) (by decide +kernel) dX6_put_46 ?_
  refine z_iald (pc := 48) hX (N := 48) (F := S) 2 rfl (by omega) (by omega) dX6_put_48 ?_
  refine z_bipush (pc := 49) hX (z := 20) (by decide +kernel) dX6_put_49 ?_
  refine z_icmp_ne (pc := 51) (tgt := 60) hX (by decide) (by omega) (by omega) dX6_put_51 (fun c_5 => ?_) (fun c_5 => absurd c_5 (by first | omega | (clear ex hX; grind [uZ])))
  refine z_aload_n (pc := 60) hX 0 rfl rfl dX6_put_60 ?_
  refine z_callV_v (pc := 61) (As := []) (rest := []) (wc := [(m, .inr (6, [.int (iI (0)), .ref s1, .ref s2, .int (iI (sm)), .ref s3, .int (iI (bI (hs = true))), .ref s4, .int (iI (len)), .ref m1, .ref m2, .ref m3, .ref m4, .int (iI (ax)), .ref l1, .ref l2, .int (iI (rm)), .long (hh)])), (s2, zI G 288 (V)), (s1, zI G 48 (S))]) (wr := []) hX (mX6_saves G (m) (s1) (s2) (s3) (s4) (m1) (m2) (m3) (m4) (l1) (l2) (0) (sm) (len) (ax) (rm) (hs) (hh) (S) (V) (by first | assumption | omega | (clear ex hX; grind [uZ]))) rfl rfl rfl (C := RX6) gX6_put_X6_saves ⟨rfl, hdX6_saves⟩ (T := TX6) (N := 17) 0 rfl rfl ⟨Nat.le_of_ble_eq_true rfl, Nat.le_of_ble_eq_true rfl⟩ [0, 1, 2] [] rfl rfl (by decide) (by decide) (by decide) rfl (Nat.le_of_ble_eq_true rfl) ⟨Nat.le_of_ble_eq_true rfl, Nat.le_of_ble_eq_true rfl⟩ dX6_put_61 (fun u_6 h_6 => ?_)
  show Z G X 4 (0) (0) [(m, .inr (6, [.int (iI (0)), .ref s1, .ref s2, .int (iI (pSz sm + 1)), .ref s3, .int (iI (bI (hs = true))), .ref s4, .int (iI (len)), .ref m1, .ref m2, .ref m3, .ref m4, .int (iI (ax)), .ref l1, .ref l2, .int (iI (rm)), .long (hh)])), (s2, zI G 288 (svS V sm S)), (s1, zI G 48 (S))] 64 [(0, .ref m), (1, .int (iI (q))), (2, .int (iI (v)))] []
  refine z_aload_n (pc := 64) hX 0 rfl rfl dX6_put_64 ?_
  refine z_get (pc := 65) hX (T := TX6) (C := RX6) (N := 17) (i := 7) (ref := "SignLettersModel") (name := "s") (desc := "[I") hX6_put_X6 0 rfl rfl 1 (by decide) kX6_put_f7 ⟨rfl, rfl, rfl⟩ (v := .ref s1) rfl dX6_put_65 ?_
  refine z_bipush (pc := 68) hX (z := 7) (by decide +kernel) dX6_put_68 ?_
  refine z_iald (pc := 70) hX (N := 48) (F := S) 2 rfl (by omega) (by omega) dX6_put_70 ?_
  refine z_istore_n (pc := 71) hX (loc' := [(3, .int (iI (S 7))), (0, .ref m), (1, .int (iI (q))), (2, .int (iI (v)))]) rfl (by decide) rfl dX6_put_71 ?_
  have cut_72 : ∀ (fz : Nat) (i : Int) (S1 : Int → Int) (h0 : q ≤ i) (h1 : i ≤ S 7) (ha : ∀ j : Int, 0 ≤ j → j < 8 → S1 j = S j) (hb : ∀ j : Int, 0 ≤ j → j < 20 → S1 (8 + j) = if i < j ∧ j ≤ S 7 then S (8 + j - 1) else S (8 + j)) (hc : ∀ j : Int, 0 ≤ j → j < 20 → S1 (28 + j) = if i < j ∧ j ≤ S 7 then S (28 + j - 1) else S (28 + j)) (hm_72 : i - q < (fz : Int)), Z G X 4 (0) (0) [(m, .inr (6, [.int (iI (0)), .ref s1, .ref s2, .int (iI (pSz sm + 1)), .ref s3, .int (iI (bI (hs = true))), .ref s4, .int (iI (len)), .ref m1, .ref m2, .ref m3, .ref m4, .int (iI (ax)), .ref l1, .ref l2, .int (iI (rm)), .long (hh)])), (s2, zI G 288 (svS V sm S)), (s1, zI G 48 (S1))] 72 [(0, .ref m), (1, .int (iI (q))), (2, .int (iI (v))), (3, .int (iI (i)))] [] := by
    intro fz
    induction fz with
    | zero =>
      intro i S1 h0 h1 ha hb hc hm_72
      exfalso
      omega
    | succ fz ih =>
      intro i S1 h0 h1 ha hb hc hm_72
      have ih_72 := ih
      clear ih
      refine z_iload_n (pc := 72) hX 3 rfl rfl dX6_put_72 ?_
      refine z_iload_n (pc := 73) hX 1 rfl rfl dX6_put_73 ?_
      refine z_icmp_le (pc := 74) (tgt := 123) hX (by decide) (by omega) (by omega) dX6_put_74 (fun c_7 => ?_) (fun c_7 => ?_)
      · refine z_aload_n (pc := 123) hX 0 rfl rfl dX6_put_123 ?_
        refine z_get (pc := 124) hX (T := TX6) (C := RX6) (N := 17) (i := 7) (ref := "SignLettersModel") (name := "s") (desc := "[I") hX6_put_X6 0 rfl rfl 1 (by decide) kX6_put_f7 ⟨rfl, rfl, rfl⟩ (v := .ref s1) rfl dX6_put_124 ?_
        refine z_bipush (pc := 127) hX (z := 8) (by decide +kernel) dX6_put_127 ?_
        refine z_iload_n (pc := 129) hX 1 rfl rfl dX6_put_129 ?_
        refine z_iadd (pc := 130) hX dX6_put_130 ?_
        refine z_iload_n (pc := 131) hX 2 rfl rfl dX6_put_131 ?_
        refine z_iast (pc := 132) hX (N := 48) (F := S1) (WS' := [(m, .inr (6, [.int (iI (0)), .ref s1, .ref s2, .int (iI (pSz sm + 1)), .ref s3, .int (iI (bI (hs = true))), .ref s4, .int (iI (len)), .ref m1, .ref m2, .ref m3, .ref m4, .int (iI (ax)), .ref l1, .ref l2, .int (iI (rm)), .long (hh)])), (s2, zI G 288 (svS V sm S)), (s1, zI G 48 (uZ S1 (8 + q) v))]) 2 rfl (by omega) (by omega) rfl dX6_put_132 ?_
        refine z_aload_n (pc := 133) hX 0 rfl rfl dX6_put_133 ?_
        refine z_get (pc := 134) hX (T := TX6) (C := RX6) (N := 17) (i := 7) (ref := "SignLettersModel") (name := "s") (desc := "[I") hX6_put_X6 0 rfl rfl 1 (by decide) kX6_put_f7 ⟨rfl, rfl, rfl⟩ (v := .ref s1) rfl dX6_put_134 ?_
        refine z_bipush (pc := 137) hX (z := 28) (by decide +kernel) dX6_put_137 ?_
        refine z_iload_n (pc := 139) hX 1 rfl rfl dX6_put_139 ?_
        refine z_iadd (pc := 140) hX dX6_put_140 ?_
        refine z_iconst (pc := 141) hX dX6_put_141 ?_
        refine z_iast (pc := 142) hX (N := 48) (F := uZ S1 (8 + q) v) (WS' := [(m, .inr (6, [.int (iI (0)), .ref s1, .ref s2, .int (iI (pSz sm + 1)), .ref s3, .int (iI (bI (hs = true))), .ref s4, .int (iI (len)), .ref m1, .ref m2, .ref m3, .ref m4, .int (iI (ax)), .ref l1, .ref l2, .int (iI (rm)), .long (hh)])), (s2, zI G 288 (svS V sm S)), (s1, zI G 48 (uZ (uZ S1 (8 + q) v) (28 + q) 0))]) 2 rfl (by omega) (by omega) rfl dX6_put_142 ?_
        refine z_aload_n (pc := 143) hX 0 rfl rfl dX6_put_143 ?_
        refine z_get (pc := 144) hX (T := TX6) (C := RX6) (N := 17) (i := 7) (ref := "SignLettersModel") (name := "s") (desc := "[I") hX6_put_X6 0 rfl rfl 1 (by decide) kX6_put_f7 ⟨rfl, rfl, rfl⟩ (v := .ref s1) rfl dX6_put_144 ?_
        refine z_bipush (pc := 147) hX (z := 7) (by decide +kernel) dX6_put_147 ?_
        refine z_dup2 (pc := 149) hX rfl rfl dX6_put_149 ?_
        refine z_iald (pc := 150) hX (N := 48) (F := uZ (uZ S1 (8 + q) v) (28 + q) 0) 2 rfl (by omega) (by omega) dX6_put_150 ?_
        refine z_iconst (pc := 151) hX dX6_put_151 ?_
        refine z_iadd (pc := 152) hX dX6_put_152 ?_
        refine z_iast (pc := 153) hX (N := 48) (F := uZ (uZ S1 (8 + q) v) (28 + q) 0) (WS' := [(m, .inr (6, [.int (iI (0)), .ref s1, .ref s2, .int (iI (pSz sm + 1)), .ref s3, .int (iI (bI (hs = true))), .ref s4, .int (iI (len)), .ref m1, .ref m2, .ref m3, .ref m4, .int (iI (ax)), .ref l1, .ref l2, .int (iI (rm)), .long (hh)])), (s2, zI G 288 (svS V sm S)), (s1, zI G 48 (uZ (uZ (uZ S1 (8 + q) v) (28 + q) 0) 7 (((uZ (uZ S1 (8 + q) v) (28 + q) 0) 7) + 1)))]) 2 rfl (by omega) (by omega) rfl dX6_put_153 ?_
        refine z_aload_n (pc := 154) hX 0 rfl rfl dX6_put_154 ?_
        refine z_get (pc := 155) hX (T := TX6) (C := RX6) (N := 17) (i := 7) (ref := "SignLettersModel") (name := "s") (desc := "[I") hX6_put_X6 0 rfl rfl 1 (by decide) kX6_put_f7 ⟨rfl, rfl, rfl⟩ (v := .ref s1) rfl dX6_put_155 ?_
        refine z_bipush (pc := 158) hX (z := 7) (by decide +kernel) dX6_put_158 ?_
        refine z_iald (pc := 160) hX (N := 48) (F := uZ (uZ (uZ S1 (8 + q) v) (28 + q) 0) 7 (((uZ (uZ S1 (8 + q) v) (28 + q) 0) 7) + 1)) 2 rfl (by omega) (by omega) dX6_put_160 ?_
        exact ex _ _ _ (uZ (uZ (uZ S1 (8 + q) v) (28 + q) 0) 7 (((uZ (uZ S1 (8 + q) v) (28 + q) 0) 7) + 1)) _ dX6_put_161 rfl ⟨(congrArg iI (show ((uZ (uZ (uZ S1 (8 + q) v) (28 + q) 0) 7 (((uZ (uZ S1 (8 + q) v) (28 + q) 0) 7) + 1)) 7 : Int) = S 7 + 1 from by rw [uZ_at, uZ_ne (by omega), uZ_ne (by omega), ha 7 (by omega) (by omega)])), (by intro j j0 j1; rw [uZ_ne (by omega), uZ_ne (by omega), uZ_ne (by omega)]; exact ha j j0 (by omega)), (by rw [uZ_at, uZ_ne (by omega), uZ_ne (by omega), ha 7 (by omega) (by omega)]), (by intro j j0 j1; rw [uZ_ne (by omega), uZ_ne (by omega)]; unfold insZ sF; by_cases e9 : j = q; (rw [e9, uZ_at, if_pos rfl]); (rw [uZ_ne (by omega), if_neg e9, hb j j0 (by omega)]; by_cases e8 : q < j ∧ j ≤ S 7; (rw [if_pos (by omega), if_pos e8, show 8 + (j - 1) = 8 + j - 1 by omega]); (rw [if_neg (by omega), if_neg e8]))), (by intro j j0 j1; rw [uZ_ne (by omega)]; unfold insZ sK; by_cases e9 : j = q; (rw [e9, uZ_at, if_pos rfl]); (rw [uZ_ne (by omega), uZ_ne (by omega), if_neg e9, hc j j0 (by omega)]; by_cases e8 : q < j ∧ j ≤ S 7; (rw [if_pos (by omega), if_pos e8, show 28 + (j - 1) = 28 + j - 1 by omega]); (rw [if_neg (by omega), if_neg e8])))⟩ rfl
      · refine z_aload_n (pc := 77) hX 0 rfl rfl dX6_put_77 ?_
        refine z_get (pc := 78) hX (T := TX6) (C := RX6) (N := 17) (i := 7) (ref := "SignLettersModel") (name := "s") (desc := "[I") hX6_put_X6 0 rfl rfl 1 (by decide) kX6_put_f7 ⟨rfl, rfl, rfl⟩ (v := .ref s1) rfl dX6_put_78 ?_
        refine z_bipush (pc := 81) hX (z := 8) (by decide +kernel) dX6_put_81 ?_
        refine z_iload_n (pc := 83) hX 3 rfl rfl dX6_put_83 ?_
        refine z_iadd (pc := 84) hX dX6_put_84 ?_
        refine z_aload_n (pc := 85) hX 0 rfl rfl dX6_put_85 ?_
        refine z_get (pc := 86) hX (T := TX6) (C := RX6) (N := 17) (i := 7) (ref := "SignLettersModel") (name := "s") (desc := "[I") hX6_put_X6 0 rfl rfl 1 (by decide) kX6_put_f7 ⟨rfl, rfl, rfl⟩ (v := .ref s1) rfl dX6_put_86 ?_
        refine z_bipush (pc := 89) hX (z := 8) (by decide +kernel) dX6_put_89 ?_
        refine z_iload_n (pc := 91) hX 3 rfl rfl dX6_put_91 ?_
        refine z_iadd (pc := 92) hX dX6_put_92 ?_
        refine z_iconst (pc := 93) hX dX6_put_93 ?_
        refine z_isub (pc := 94) hX dX6_put_94 ?_
        refine z_iald (pc := 95) hX (N := 48) (F := S1) 2 rfl (by omega) (by omega) dX6_put_95 ?_
        refine z_iast (pc := 96) hX (N := 48) (F := S1) (WS' := [(m, .inr (6, [.int (iI (0)), .ref s1, .ref s2, .int (iI (pSz sm + 1)), .ref s3, .int (iI (bI (hs = true))), .ref s4, .int (iI (len)), .ref m1, .ref m2, .ref m3, .ref m4, .int (iI (ax)), .ref l1, .ref l2, .int (iI (rm)), .long (hh)])), (s2, zI G 288 (svS V sm S)), (s1, zI G 48 (uZ S1 (8 + i) (S1 ((8 + i) - 1))))]) 2 rfl (by omega) (by omega) rfl dX6_put_96 ?_
        refine z_aload_n (pc := 97) hX 0 rfl rfl dX6_put_97 ?_
        refine z_get (pc := 98) hX (T := TX6) (C := RX6) (N := 17) (i := 7) (ref := "SignLettersModel") (name := "s") (desc := "[I") hX6_put_X6 0 rfl rfl 1 (by decide) kX6_put_f7 ⟨rfl, rfl, rfl⟩ (v := .ref s1) rfl dX6_put_98 ?_
        refine z_bipush (pc := 101) hX (z := 28) (by decide +kernel) dX6_put_101 ?_
        refine z_iload_n (pc := 103) hX 3 rfl rfl dX6_put_103 ?_
        refine z_iadd (pc := 104) hX dX6_put_104 ?_
        refine z_aload_n (pc := 105) hX 0 rfl rfl dX6_put_105 ?_
        refine z_get (pc := 106) hX (T := TX6) (C := RX6) (N := 17) (i := 7) (ref := "SignLettersModel") (name := "s") (desc := "[I") hX6_put_X6 0 rfl rfl 1 (by decide) kX6_put_f7 ⟨rfl, rfl, rfl⟩ (v := .ref s1) rfl dX6_put_106 ?_
        refine z_bipush (pc := 109) hX (z := 28) (by decide +kernel) dX6_put_109 ?_
        refine z_iload_n (pc := 111) hX 3 rfl rfl dX6_put_111 ?_
        refine z_iadd (pc := 112) hX dX6_put_112 ?_
        refine z_iconst (pc := 113) hX dX6_put_113 ?_
        refine z_isub (pc := 114) hX dX6_put_114 ?_
        refine z_iald (pc := 115) hX (N := 48) (F := uZ S1 (8 + i) (S1 ((8 + i) - 1))) 2 rfl (by omega) (by omega) dX6_put_115 ?_
        refine z_iast (pc := 116) hX (N := 48) (F := uZ S1 (8 + i) (S1 ((8 + i) - 1))) (WS' := [(m, .inr (6, [.int (iI (0)), .ref s1, .ref s2, .int (iI (pSz sm + 1)), .ref s3, .int (iI (bI (hs = true))), .ref s4, .int (iI (len)), .ref m1, .ref m2, .ref m3, .ref m4, .int (iI (ax)), .ref l1, .ref l2, .int (iI (rm)), .long (hh)])), (s2, zI G 288 (svS V sm S)), (s1, zI G 48 (uZ (uZ S1 (8 + i) (S1 ((8 + i) - 1))) (28 + i) ((uZ S1 (8 + i) (S1 ((8 + i) - 1))) ((28 + i) - 1))))]) 2 rfl (by omega) (by omega) rfl dX6_put_116 ?_
        refine z_iinc (pc := 117) hX (loc' := [(3, .int (iI (i + (-1)))), (0, .ref m), (1, .int (iI (q))), (2, .int (iI (v)))]) 3 rfl (by decide) rfl dX6_put_117 ?_
        refine z_goto (pc := 120) (tgt := 72) hX (by decide) dX6_put_120 ?_
        refine z_at [1, 2, 3, 0] [0, 1, 2] (loc' := [(0, .ref m), (1, .int (iI (q))), (2, .int (iI (v))), (3, .int (iI ((i + (-1)))))]) (WS' := [(m, .inr (6, [.int (iI (0)), .ref s1, .ref s2, .int (iI (pSz sm + 1)), .ref s3, .int (iI (bI (hs = true))), .ref s4, .int (iI (len)), .ref m1, .ref m2, .ref m3, .ref m4, .int (iI (ax)), .ref l1, .ref l2, .int (iI (rm)), .long (hh)])), (s2, zI G 288 (svS V sm S)), (s1, zI G 48 ((uZ (uZ S1 (8 + i) (S1 ((8 + i) - 1))) (28 + i) ((uZ S1 (8 + i) (S1 ((8 + i) - 1))) ((28 + i) - 1)))))]) rfl (by decide) rfl ?_
        exact ih_72 (i + (-1)) (uZ (uZ S1 (8 + i) (S1 ((8 + i) - 1))) (28 + i) ((uZ S1 (8 + i) (S1 ((8 + i) - 1))) ((28 + i) - 1))) (by first | assumption | omega | (clear ex hX ih_72; grind [uZ])) (by first | assumption | omega | (clear ex hX ih_72; grind [uZ])) (by intro j j0 j1; rw [uZ_ne (by omega), uZ_ne (by omega)]; exact ha j j0 j1) (by intro j j0 j1; rw [uZ_ne (by omega)]; by_cases e9 : j = i; (rw [e9, uZ_at, show 8 + i - 1 = 8 + (i - 1) by omega, hb (i - 1) (by omega) (by omega), if_neg (by omega), if_pos (by omega)]; try rw [show 8 + i - 1 = 8 + (i - 1) by omega]); (rw [uZ_ne (by omega), hb j j0 j1]; by_cases e8 : i < j ∧ j ≤ S 7; (rw [if_pos e8, if_pos (by omega)]); (rw [if_neg e8, if_neg (by omega)]))) (by intro j j0 j1; by_cases e9 : j = i; (rw [e9, uZ_at, uZ_ne (by omega), show 28 + i - 1 = 28 + (i - 1) by omega, hc (i - 1) (by omega) (by omega), if_neg (by omega), if_pos (by omega)]; try rw [show 28 + i - 1 = 28 + (i - 1) by omega]); (rw [uZ_ne (by omega), uZ_ne (by omega), hc j j0 j1]; by_cases e8 : i < j ∧ j ≤ S 7; (rw [if_pos e8, if_pos (by omega)]); (rw [if_neg e8, if_neg (by omega)]))) (by omega)
  refine z_at [1, 2, 3, 0] [0, 1, 2] (loc' := [(0, .ref m), (1, .int (iI (q))), (2, .int (iI (v))), (3, .int (iI ((S 7))))]) (WS' := [(m, .inr (6, [.int (iI (0)), .ref s1, .ref s2, .int (iI (pSz sm + 1)), .ref s3, .int (iI (bI (hs = true))), .ref s4, .int (iI (len)), .ref m1, .ref m2, .ref m3, .ref m4, .int (iI (ax)), .ref l1, .ref l2, .int (iI (rm)), .long (hh)])), (s2, zI G 288 (svS V sm S)), (s1, zI G 48 (S))]) rfl (by decide) rfl ?_
  exact cut_72 (Int.toNat ((S 7) - q) + 1) (S 7) (S) (by first | assumption | omega | (clear ex hX cut_72; grind [uZ])) (by first | assumption | omega | (clear ex hX cut_72; grind [uZ])) (by intro j j0 j1; rfl) (by intro j j0 j1; rw [if_neg (by omega)]) (by intro j j0 j1; rw [if_neg (by omega)]) (by omega)
theorem hdX6_fails : yX6_fails.cls ≠ "java/lang/invoke/MethodHandle" ∧ yX6_fails.cls ≠ "java/lang/invoke/VarHandle" ∧ (parseMethodDescriptor yX6_fails.desc).map (fun d => d.parameters.length) = some 1 := by decide +kernel
set_option maxHeartbeats 400000 in
set_option maxRecDepth 100000 in
theorem mX6_put_no (G : ZG) (m : Nat) (s1 : Nat) (s2 : Nat) (s3 : Nat) (s4 : Nat) (m1 : Nat) (m2 : Nat) (m3 : Nat) (m4 : Nat) (l1 : Nat) (l2 : Nat) (th : Int) (sm : Int) (len : Int) (ax : Int) (rm : Int) (hs : Bool) (hh : Int64) (S : Int → Int) (q : Int) (v : Int) (hn : 0 ≤ S 7 ∧ S 7 ≤ 20) (hq : -2147483648 ≤ q ∧ q < 2147483648) (hv : -2147483648 ≤ v ∧ v < 2147483648) (hbad : ¬ ((0 ≤ q ∧ q ≤ S 7) ∧ (-1 ≤ v ∧ v < 26) ∧ (S 7 < 20))) : zMeti yX6_put wsX6_put { frames := 1, cells := 0, slots := 0, locals := 22 } G [.ref m, .int (iI (q)), .int (iI (v))] [(m, .inr (6, [.int (iI (th)), .ref s1, .ref s2, .int (iI (sm)), .ref s3, .int (iI (bI (hs = true))), .ref s4, .int (iI (len)), .ref m1, .ref m2, .ref m3, .ref m4, .int (iI (ax)), .ref l1, .ref l2, .int (iI (rm)), .long (hh)])), (s1, zI G 48 (S))] (fun (rr : Int32) (uu : Unit) => rr = iI (0)) (fun (uu : Unit) => [(m, .inr (6, [.int (iI (if 0 ≤ q ∧ q ≤ S 7 then (if -1 ≤ v ∧ v < 26 then (if S 7 < 20 then (0) else 3) else 2) else 1)), .ref s1, .ref s2, .int (iI (sm)), .ref s3, .int (iI (bI (hs = true))), .ref s4, .int (iI (len)), .ref m1, .ref m2, .ref m3, .ref m4, .int (iI (ax)), .ref l1, .ref l2, .int (iI (rm)), .long (hh)])), (s1, zI G 48 (S))]) 0 0 := by
  refine z_meti (cc := cX6_put) (nL := 4) (rt := .int) (by decide +kernel) rfl (Nat.le_of_ble_eq_true rfl) (fun X hX ex => ?_)
  have hX : ZOk G X 4 cX6_put RX6 wsX6_put { frames := 1, cells := 0, slots := 0, locals := 22 } := hX
  show Z G X 4 (0) (0) [(m, .inr (6, [.int (iI (th)), .ref s1, .ref s2, .int (iI (sm)), .ref s3, .int (iI (bI (hs = true))), .ref s4, .int (iI (len)), .ref m1, .ref m2, .ref m3, .ref m4, .int (iI (ax)), .ref l1, .ref l2, .int (iI (rm)), .long (hh)])), (s1, zI G 48 (S))] 0 [(0, .ref m), (1, .int (iI (q))), (2, .int (iI (v)))] []
  refine z_aload_n (pc := 0) hX 0 rfl rfl dX6_put_0 ?_
  refine z_iconst (pc := 1) hX dX6_put_1 ?_
  refine z_put (pc := 2) hX (T := TX6) (C := RX6) (N := 17) (i := 40) (ref := "SignLettersModel") (name := "thrown") (desc := "I") (WS' := [(m, .inr (6, [.int (iI (0)), .ref s1, .ref s2, .int (iI (sm)), .ref s3, .int (iI (bI (hs = true))), .ref s4, .int (iI (len)), .ref m1, .ref m2, .ref m3, .ref m4, .int (iI (ax)), .ref l1, .ref l2, .int (iI (rm)), .long (hh)])), (s1, zI G 48 (S))]) tyX6 tyX6_ok nmX6 hX6_put_X6 0 rfl rfl 0 (by decide) kX6_put_f40 ⟨rfl, rfl, rfl⟩ rfl (ty := .int) (by decide +kernel) rfl rfl (Nat.le_of_ble_eq_true rfl) rfl dX6_put_2 ?_
  refine z_iload_n (pc := 5) hX 1 rfl rfl dX6_put_5 ?_
  refine z_iconst (pc := 6) hX dX6_put_6 ?_
  refine z_aload_n (pc := 7) hX 0 rfl rfl dX6_put_7 ?_
  refine z_get (pc := 8) hX (T := TX6) (C := RX6) (N := 17) (i := 7) (ref := "SignLettersModel") (name := "s") (desc := "[I") hX6_put_X6 0 rfl rfl 1 (by decide) kX6_put_f7 ⟨rfl, rfl, rfl⟩ (v := .ref s1) rfl dX6_put_8 ?_
  refine z_bipush (pc := 11) hX (z := 7) (by decide +kernel) dX6_put_11 ?_
  refine z_iald (pc := 13) hX (N := 48) (F := S) 1 rfl (by omega) (by omega) dX6_put_13 ?_
  refine z_callS_i (pc := 14) (As := [.int (iI (q)), .int (iI (0)), .int (iI (S 7))]) (rest := []) (wc := []) (wr := [(m, .inr (6, [.int (iI (0)), .ref s1, .ref s2, .int (iI (sm)), .ref s3, .int (iI (bI (hs = true))), .ref s4, .int (iI (len)), .ref m1, .ref m2, .ref m3, .ref m4, .int (iI (ax)), .ref l1, .ref l2, .int (iI (rm)), .long (hh)])), (s1, zI G 48 (S))]) hX (mX6_in G (q) (0) (S 7) (by first | assumption | omega | (clear ex hX; grind [uZ])) (by first | assumption | omega | (clear ex hX; grind [uZ])) (by first | assumption | omega | (clear ex hX; grind [uZ]))) rfl rfl rfl gX6_put_X6_in hdX6_in ⟨Nat.le_of_ble_eq_true rfl, Nat.le_of_ble_eq_true rfl⟩ [] [0, 1] rfl rfl (by decide) (by decide) (by decide) rfl (Nat.le_of_ble_eq_true rfl) ⟨Nat.le_of_ble_eq_true rfl, Nat.le_of_ble_eq_true rfl⟩ dX6_put_14 (fun r_1 u_1 h_1 => ?_)
  subst h_1
  show Z G X 4 (0) (0) [(m, .inr (6, [.int (iI (0)), .ref s1, .ref s2, .int (iI (sm)), .ref s3, .int (iI (bI (hs = true))), .ref s4, .int (iI (len)), .ref m1, .ref m2, .ref m3, .ref m4, .int (iI (ax)), .ref l1, .ref l2, .int (iI (rm)), .long (hh)])), (s1, zI G 48 (S))] 17 [(0, .ref m), (1, .int (iI (q))), (2, .int (iI (v)))] [.int (iI (bI (0 ≤ q ∧ q ≤ (S 7))))]
  refine z_bif_ne (pc := 17) (tgt := 26) hX (by decide) dX6_put_17 (fun c_2 => ?_) (fun c_2 => ?_)
  · refine z_iload_n (pc := 26) hX 2 rfl rfl dX6_put_26 ?_
    refine z_iconst (pc := 27) hX dX6_put_27 ?_
    refine z_bipush (pc := 28) hX (z := 25) (by decide +kernel) dX6_put_28 ?_
    refine z_callS_i (pc := 30) (As := [.int (iI (v)), .int (iI ((-1))), .int (iI (25))]) (rest := []) (wc := []) (wr := [(m, .inr (6, [.int (iI (0)), .ref s1, .ref s2, .int (iI (sm)), .ref s3, .int (iI (bI (hs = true))), .ref s4, .int (iI (len)), .ref m1, .ref m2, .ref m3, .ref m4, .int (iI (ax)), .ref l1, .ref l2, .int (iI (rm)), .long (hh)])), (s1, zI G 48 (S))]) hX (mX6_in G (v) (-1) (25) (by first | assumption | omega | (clear ex hX; grind [uZ])) (by first | assumption | omega | (clear ex hX; grind [uZ])) (by first | assumption | omega | (clear ex hX; grind [uZ]))) rfl rfl rfl gX6_put_X6_in hdX6_in ⟨Nat.le_of_ble_eq_true rfl, Nat.le_of_ble_eq_true rfl⟩ [] [0, 1] rfl rfl (by decide) (by decide) (by decide) rfl (Nat.le_of_ble_eq_true rfl) ⟨Nat.le_of_ble_eq_true rfl, Nat.le_of_ble_eq_true rfl⟩ dX6_put_30 (fun r_3 u_3 h_3 => ?_)
    subst h_3
    show Z G X 4 (0) (0) [(m, .inr (6, [.int (iI (0)), .ref s1, .ref s2, .int (iI (sm)), .ref s3, .int (iI (bI (hs = true))), .ref s4, .int (iI (len)), .ref m1, .ref m2, .ref m3, .ref m4, .int (iI (ax)), .ref l1, .ref l2, .int (iI (rm)), .long (hh)])), (s1, zI G 48 (S))] 33 [(0, .ref m), (1, .int (iI (q))), (2, .int (iI (v)))] [.int (iI (bI ((-1) ≤ v ∧ v ≤ 25)))]
    refine z_bif_ne (pc := 33) (tgt := 42) hX (by decide) dX6_put_33 (fun c_4 => ?_) (fun c_4 => ?_)
    · refine z_aload_n (pc := 42) hX 0 rfl rfl dX6_put_42 ?_
      refine z_get (pc := 43) hX (T := TX6) (C := RX6) (N := 17) (i := 7) (ref := "SignLettersModel") (name := "s") (desc := "[I") hX6_put_X6 0 rfl rfl 1 (by decide) kX6_put_f7 ⟨rfl, rfl, rfl⟩ (v := .ref s1) rfl dX6_put_43 ?_
      refine z_bipush (pc := 46) hX (z := 7) (by decide +kernel) dX6_put_46 ?_
      refine z_iald (pc := 48) hX (N := 48) (F := S) 1 rfl (by omega) (by omega) dX6_put_48 ?_
      refine z_bipush (pc := 49) hX (z := 20) (by decide +kernel) dX6_put_49 ?_
      refine z_icmp_ne (pc := 51) (tgt := 60) hX (by decide) (by omega) (by omega) dX6_put_51 (fun c_5 => ?_) (fun c_5 => ?_)
      · exfalso; omega
      · refine z_aload_n (pc := 54) hX 0 rfl rfl dX6_put_54 ?_
        refine z_iconst (pc := 55) hX dX6_put_55 ?_
        refine z_callV_i (pc := 56) (As := [.int (iI (3))]) (rest := []) (wc := [(m, .inr (6, [.int (iI (0)), .ref s1, .ref s2, .int (iI (sm)), .ref s3, .int (iI (bI (hs = true))), .ref s4, .int (iI (len)), .ref m1, .ref m2, .ref m3, .ref m4, .int (iI (ax)), .ref l1, .ref l2, .int (iI (rm)), .long (hh)]))]) (wr := [(s1, zI G 48 (S))]) hX (mX6_fails G (m) (s1) (s2) (s3) (s4) (m1) (m2) (m3) (m4) (l1) (l2) (0) (sm) (len) (ax) (rm) (hs) (hh) (S) (3) ) rfl rfl rfl (C := RX6) gX6_put_X6_fails ⟨rfl, hdX6_fails⟩ (T := TX6) (N := 17) 0 rfl rfl ⟨Nat.le_of_ble_eq_true rfl, Nat.le_of_ble_eq_true rfl⟩ [0] [1] rfl rfl (by decide) (by decide) (by decide) rfl (Nat.le_of_ble_eq_true rfl) ⟨Nat.le_of_ble_eq_true rfl, Nat.le_of_ble_eq_true rfl⟩ dX6_put_56 (fun r_6 u_6 h_6 => ?_)
        subst h_6
        show Z G X 4 (0) (0) [(s1, zI G 48 (S)), (m, .inr (6, [.int (iI (3)), .ref s1, .ref s2, .int (iI (sm)), .ref s3, .int (iI (bI (hs = true))), .ref s4, .int (iI (len)), .ref m1, .ref m2, .ref m3, .ref m4, .int (iI (ax)), .ref l1, .ref l2, .int (iI (rm)), .long (hh)]))] 59 [(0, .ref m), (1, .int (iI (q))), (2, .int (iI (v)))] [.int (iI (0))]
        refine z_at [0, 1, 2] [1, 0] (loc' := [(0, .ref m), (1, .int (iI (q))), (2, .int (iI (v)))]) (WS' := [(m, .inr (6, [.int (iI (3)), .ref s1, .ref s2, .int (iI (sm)), .ref s3, .int (iI (bI (hs = true))), .ref s4, .int (iI (len)), .ref m1, .ref m2, .ref m3, .ref m4, .int (iI (ax)), .ref l1, .ref l2, .int (iI (rm)), .long (hh)])), (s1, zI G 48 (S))]) rfl (by decide) rfl ?_
        refine (congrArg (fun z_ : Int => Z G X 4 (0) (0) [(m, .inr (6, [.int (iI (z_)), .ref s1, .ref s2, .int (iI (sm)), .ref s3, .int (iI (bI (hs = true))), .ref s4, .int (iI (len)), .ref m1, .ref m2, .ref m3, .ref m4, .int (iI (ax)), .ref l1, .ref l2, .int (iI (rm)), .long (hh)])), (s1, zI G 48 (S))] 59 [(0, .ref m), (1, .int (iI (q))), (2, .int (iI (v)))] [.int (iI (0))]) (show (3 : Int) = if 0 ≤ q ∧ q ≤ S 7 then (if -1 ≤ v ∧ v < 26 then (if S 7 < 20 then (0) else 3) else 2) else 1 from by first | rfl | (rw [if_neg (by omega)]; done) | (rw [if_pos (by omega), if_neg (by omega)]; done) | (rw [if_pos (by omega), if_pos (by omega), if_neg (by omega)]; done) | (rw [if_pos (by omega), if_pos (by omega), if_pos (by omega)]; done))).mpr ?_
        exact ex _ _ _ () _ dX6_put_59 rfl rfl rfl
    · refine z_aload_n (pc := 36) hX 0 rfl rfl dX6_put_36 ?_
      refine z_iconst (pc := 37) hX dX6_put_37 ?_
      refine z_callV_i (pc := 38) (As := [.int (iI (2))]) (rest := []) (wc := [(m, .inr (6, [.int (iI (0)), .ref s1, .ref s2, .int (iI (sm)), .ref s3, .int (iI (bI (hs = true))), .ref s4, .int (iI (len)), .ref m1, .ref m2, .ref m3, .ref m4, .int (iI (ax)), .ref l1, .ref l2, .int (iI (rm)), .long (hh)]))]) (wr := [(s1, zI G 48 (S))]) hX (mX6_fails G (m) (s1) (s2) (s3) (s4) (m1) (m2) (m3) (m4) (l1) (l2) (0) (sm) (len) (ax) (rm) (hs) (hh) (S) (2) ) rfl rfl rfl (C := RX6) gX6_put_X6_fails ⟨rfl, hdX6_fails⟩ (T := TX6) (N := 17) 0 rfl rfl ⟨Nat.le_of_ble_eq_true rfl, Nat.le_of_ble_eq_true rfl⟩ [0] [1] rfl rfl (by decide) (by decide) (by decide) rfl (Nat.le_of_ble_eq_true rfl) ⟨Nat.le_of_ble_eq_true rfl, Nat.le_of_ble_eq_true rfl⟩ dX6_put_38 (fun r_7 u_7 h_7 => ?_)
      subst h_7
      show Z G X 4 (0) (0) [(s1, zI G 48 (S)), (m, .inr (6, [.int (iI (2)), .ref s1, .ref s2, .int (iI (sm)), .ref s3, .int (iI (bI (hs = true))), .ref s4, .int (iI (len)), .ref m1, .ref m2, .ref m3, .ref m4, .int (iI (ax)), .ref l1, .ref l2, .int (iI (rm)), .long (hh)]))] 41 [(0, .ref m), (1, .int (iI (q))), (2, .int (iI (v)))] [.int (iI (0))]
      refine z_at [0, 1, 2] [1, 0] (loc' := [(0, .ref m), (1, .int (iI (q))), (2, .int (iI (v)))]) (WS' := [(m, .inr (6, [.int (iI (2)), .ref s1, .ref s2, .int (iI (sm)), .ref s3, .int (iI (bI (hs = true))), .ref s4, .int (iI (len)), .ref m1, .ref m2, .ref m3, .ref m4, .int (iI (ax)), .ref l1, .ref l2, .int (iI (rm)), .long (hh)])), (s1, zI G 48 (S))]) rfl (by decide) rfl ?_
      refine (congrArg (fun z_ : Int => Z G X 4 (0) (0) [(m, .inr (6, [.int (iI (z_)), .ref s1, .ref s2, .int (iI (sm)), .ref s3, .int (iI (bI (hs = true))), .ref s4, .int (iI (len)), .ref m1, .ref m2, .ref m3, .ref m4, .int (iI (ax)), .ref l1, .ref l2, .int (iI (rm)), .long (hh)])), (s1, zI G 48 (S))] 41 [(0, .ref m), (1, .int (iI (q))), (2, .int (iI (v)))] [.int (iI (0))]) (show (2 : Int) = if 0 ≤ q ∧ q ≤ S 7 then (if -1 ≤ v ∧ v < 26 then (if S 7 < 20 then (0) else 3) else 2) else 1 from by first | rfl | (rw [if_neg (by omega)]; done) | (rw [if_pos (by omega), if_neg (by omega)]; done) | (rw [if_pos (by omega), if_pos (by omega), if_neg (by omega)]; done) | (rw [if_pos (by omega), if_pos (by omega), if_pos (by omega)]; done))).mpr ?_
      exact ex _ _ _ () _ dX6_put_41 rfl rfl rfl
  · refine z_aload_n (pc := 20) hX 0 rfl rfl dX6_put_20 ?_
    refine z_iconst (pc := 21) hX dX6_put_21 ?_
    refine z_callV_i (pc := 22) (As := [.int (iI (1))]) (rest := []) (wc := [(m, .inr (6, [.int (iI (0)), .ref s1, .ref s2, .int (iI (sm)), .ref s3, .int (iI (bI (hs = true))), .ref s4, .int (iI (len)), .ref m1, .ref m2, .ref m3, .ref m4, .int (iI (ax)), .ref l1, .ref l2, .int (iI (rm)), .long (hh)]))]) (wr := [(s1, zI G 48 (S))]) hX (mX6_fails G (m) (s1) (s2) (s3) (s4) (m1) (m2) (m3) (m4) (l1) (l2) (0) (sm) (len) (ax) (rm) (hs) (hh) (S) (1) ) rfl rfl rfl (C := RX6) gX6_put_X6_fails ⟨rfl, hdX6_fails⟩ (T := TX6) (N := 17) 0 rfl rfl ⟨Nat.le_of_ble_eq_true rfl, Nat.le_of_ble_eq_true rfl⟩ [0] [1] rfl rfl (by decide) (by decide) (by decide) rfl (Nat.le_of_ble_eq_true rfl) ⟨Nat.le_of_ble_eq_true rfl, Nat.le_of_ble_eq_true rfl⟩ dX6_put_22 (fun r_8 u_8 h_8 => ?_)
    subst h_8
    show Z G X 4 (0) (0) [(s1, zI G 48 (S)), (m, .inr (6, [.int (iI (1)), .ref s1, .ref s2, .int (iI (sm)), .ref s3, .int (iI (bI (hs = true))), .ref s4, .int (iI (len)), .ref m1, .ref m2, .ref m3, .ref m4, .int (iI (ax)), .ref l1, .ref l2, .int (iI (rm)), .long (hh)]))] 25 [(0, .ref m), (1, .int (iI (q))), (2, .int (iI (v)))] [.int (iI (0))]
    refine z_at [0, 1, 2] [1, 0] (loc' := [(0, .ref m), (1, .int (iI (q))), (2, .int (iI (v)))]) (WS' := [(m, .inr (6, [.int (iI (1)), .ref s1, .ref s2, .int (iI (sm)), .ref s3, .int (iI (bI (hs = true))), .ref s4, .int (iI (len)), .ref m1, .ref m2, .ref m3, .ref m4, .int (iI (ax)), .ref l1, .ref l2, .int (iI (rm)), .long (hh)])), (s1, zI G 48 (S))]) rfl (by decide) rfl ?_
    refine (congrArg (fun z_ : Int => Z G X 4 (0) (0) [(m, .inr (6, [.int (iI (z_)), .ref s1, .ref s2, .int (iI (sm)), .ref s3, .int (iI (bI (hs = true))), .ref s4, .int (iI (len)), .ref m1, .ref m2, .ref m3, .ref m4, .int (iI (ax)), .ref l1, .ref l2, .int (iI (rm)), .long (hh)])), (s1, zI G 48 (S))] 25 [(0, .ref m), (1, .int (iI (q))), (2, .int (iI (v)))] [.int (iI (0))]) (show (1 : Int) = if 0 ≤ q ∧ q ≤ S 7 then (if -1 ≤ v ∧ v < 26 then (if S 7 < 20 then (0) else 3) else 2) else 1 from by first | rfl | (rw [if_neg (by omega)]; done) | (rw [if_pos (by omega), if_neg (by omega)]; done) | (rw [if_pos (by omega), if_pos (by omega), if_neg (by omega)]; done) | (rw [if_pos (by omega), if_pos (by omega), if_pos (by omega)]; done))).mpr ?_
    exact ex _ _ _ () _ dX6_put_25 rfl rfl rfl
theorem hX6_drop_X6 : ∀ w ∈ wsX60, w ∈ wsX6_drop := by decide +kernel
theorem kX6_drop_f40 : Cond.fieldLink RX6 40 "SignLettersModel" "thrown" "I" ∈ wsX6_drop := by decide +kernel
theorem kX6_drop_f7 : Cond.fieldLink RX6 7 "SignLettersModel" "s" "[I" ∈ wsX6_drop := by decide +kernel
set_option maxHeartbeats 400000 in
set_option maxRecDepth 100000 in
theorem mX6_drop_ok (G : ZG) (m : Nat) (s1 : Nat) (s2 : Nat) (s3 : Nat) (s4 : Nat) (m1 : Nat) (m2 : Nat) (m3 : Nat) (m4 : Nat) (l1 : Nat) (l2 : Nat) (th : Int) (sm : Int) (len : Int) (ax : Int) (rm : Int) (hs : Bool) (hh : Int64) (S : Int → Int) (V : Int → Int) (q : Int) (hsm : 0 ≤ sm ∧ sm ≤ 6) (hn : 0 ≤ S 7 ∧ S 7 ≤ 20) (hq : -2147483648 ≤ q ∧ q < 2147483648) (ok1 : 0 ≤ q ∧ q < S 7) : zMeti yX6_drop wsX6_drop { frames := 2, cells := 0, slots := 0, locals := 43 } G [.ref m, .int (iI (q))] [(m, .inr (6, [.int (iI (th)), .ref s1, .ref s2, .int (iI (sm)), .ref s3, .int (iI (bI (hs = true))), .ref s4, .int (iI (len)), .ref m1, .ref m2, .ref m3, .ref m4, .int (iI (ax)), .ref l1, .ref l2, .int (iI (rm)), .long (hh)])), (s2, zI G 288 (V)), (s1, zI G 48 (S))] (fun (rr : Int32) (uu : (Int → Int)) => (rr = iI (S 7 - 1)) ∧ (∀ j : Int, 0 ≤ j → j < 7 → uu j = S j) ∧ (uu 7 = S 7 - 1) ∧ (∀ j : Int, 0 ≤ j → j < S 7 - 1 → uu (8 + j) = remZ (sF S) q (S 7) j) ∧ (∀ j : Int, 0 ≤ j → j < S 7 - 1 → uu (28 + j) = remZ (sK S) q (S 7) j)) (fun (uu : (Int → Int)) => [(m, .inr (6, [.int (iI (0)), .ref s1, .ref s2, .int (iI (pSz sm + 1)), .ref s3, .int (iI (bI (hs = true))), .ref s4, .int (iI (len)), .ref m1, .ref m2, .ref m3, .ref m4, .int (iI (ax)), .ref l1, .ref l2, .int (iI (rm)), .long (hh)])), (s2, zI G 288 (svS V sm S)), (s1, zI G 48 (uu))]) 0 0 := by
  refine z_meti (cc := cX6_drop) (nL := 3) (rt := .int) (by decide +kernel) rfl (Nat.le_of_ble_eq_true rfl) (fun X hX ex => ?_)
  have hX : ZOk G X 3 cX6_drop RX6 wsX6_drop { frames := 2, cells := 0, slots := 0, locals := 43 } := hX
  show Z G X 3 (0) (0) [(m, .inr (6, [.int (iI (th)), .ref s1, .ref s2, .int (iI (sm)), .ref s3, .int (iI (bI (hs = true))), .ref s4, .int (iI (len)), .ref m1, .ref m2, .ref m3, .ref m4, .int (iI (ax)), .ref l1, .ref l2, .int (iI (rm)), .long (hh)])), (s2, zI G 288 (V)), (s1, zI G 48 (S))] 0 [(0, .ref m), (1, .int (iI (q)))] []
  refine z_aload_n (pc := 0) hX 0 rfl rfl dX6_drop_0 ?_
  refine z_iconst (pc := 1) hX dX6_drop_1 ?_
  refine z_put (pc := 2) hX (T := TX6) (C := RX6) (N := 17) (i := 40) (ref := "SignLettersModel") (name := "thrown") (desc := "I") (WS' := [(m, .inr (6, [.int (iI (0)), .ref s1, .ref s2, .int (iI (sm)), .ref s3, .int (iI (bI (hs = true))), .ref s4, .int (iI (len)), .ref m1, .ref m2, .ref m3, .ref m4, .int (iI (ax)), .ref l1, .ref l2, .int (iI (rm)), .long (hh)])), (s2, zI G 288 (V)), (s1, zI G 48 (S))]) tyX6 tyX6_ok nmX6 hX6_drop_X6 0 rfl rfl 0 (by decide) kX6_drop_f40 ⟨rfl, rfl, rfl⟩ rfl (ty := .int) (by decide +kernel) rfl rfl (Nat.le_of_ble_eq_true rfl) rfl dX6_drop_2 ?_
  refine z_aload_n (pc := 5) hX 0 rfl rfl dX6_drop_5 ?_
  refine z_iload_n (pc := 6) hX 1 rfl rfl dX6_drop_6 ?_
  refine z_callV_i (pc := 7) (As := [.int (iI (q))]) (rest := []) (wc := [(m, .inr (6, [.int (iI (0)), .ref s1, .ref s2, .int (iI (sm)), .ref s3, .int (iI (bI (hs = true))), .ref s4, .int (iI (len)), .ref m1, .ref m2, .ref m3, .ref m4, .int (iI (ax)), .ref l1, .ref l2, .int (iI (rm)), .long (hh)])), (s1, zI G 48 (S))]) (wr := [(s2, zI G 288 (V))]) hX (mX6_isItem G (m) (s1) (s2) (s3) (s4) (m1) (m2) (m3) (m4) (l1) (l2) (0) (sm) (len) (ax) (rm) (hs) (hh) (S) (q) (by first | assumption | omega | (clear ex hX; grind [uZ])) (by first | assumption | omega | (clear ex hX; grind [uZ]))) rfl rfl rfl (C := RX6) gX6_drop_X6_isItem ⟨rfl, hdX6_isItem⟩ (T := TX6) (N := 17) 0 rfl rfl ⟨Nat.le_of_ble_eq_true rfl, Nat.le_of_ble_eq_true rfl⟩ [0, 2] [1] rfl rfl (by decide) (by decide) (by decide) rfl (Nat.le_of_ble_eq_true rfl) ⟨Nat.le_of_ble_eq_true rfl, Nat.le_of_ble_eq_true rfl⟩ dX6_drop_7 (fun r_1 u_1 h_1 => ?_)
  subst h_1
  show Z G X 3 (0) (0) [(s2, zI G 288 (V)), (m, .inr (6, [.int (iI (0)), .ref s1, .ref s2, .int (iI (sm)), .ref s3, .int (iI (bI (hs = true))), .ref s4, .int (iI (len)), .ref m1, .ref m2, .ref m3, .ref m4, .int (iI (ax)), .ref l1, .ref l2, .int (iI (rm)), .long (hh)])), (s1, zI G 48 (S))] 10 [(0, .ref m), (1, .int (iI (q)))] [.int (iI (bI (0 ≤ q ∧ q < S 7)))]
  refine z_bif_ne (pc := 10) (tgt := 19) hX (by decide) dX6_drop_10 (fun c_2 => ?_) (fun c_2 => by first | exact absurd c_2 ok1 | exact absurd ok1 c_2)
  refine z_aload_n (pc := 19) hX 0 rfl rfl dX6_drop_19 ?_
  refine z_callV_v (pc := 20) (As := []) (rest := []) (wc := [(m, .inr (6, [.int (iI (0)), .ref s1, .ref s2, .int (iI (sm)), .ref s3, .int (iI (bI (hs = true))), .ref s4, .int (iI (len)), .ref m1, .ref m2, .ref m3, .ref m4, .int (iI (ax)), .ref l1, .ref l2, .int (iI (rm)), .long (hh)])), (s2, zI G 288 (V)), (s1, zI G 48 (S))]) (wr := []) hX (mX6_saves G (m) (s1) (s2) (s3) (s4) (m1) (m2) (m3) (m4) (l1) (l2) (0) (sm) (len) (ax) (rm) (hs) (hh) (S) (V) (by first | assumption | omega | (clear ex hX; grind [uZ]))) rfl rfl rfl (C := RX6) gX6_drop_X6_saves ⟨rfl, hdX6_saves⟩ (T := TX6) (N := 17) 0 rfl rfl ⟨Nat.le_of_ble_eq_true rfl, Nat.le_of_ble_eq_true rfl⟩ [1, 0, 2] [] rfl rfl (by decide) (by decide) (by decide) rfl (Nat.le_of_ble_eq_true rfl) ⟨Nat.le_of_ble_eq_true rfl, Nat.le_of_ble_eq_true rfl⟩ dX6_drop_20 (fun u_3 h_3 => ?_)
  show Z G X 3 (0) (0) [(m, .inr (6, [.int (iI (0)), .ref s1, .ref s2, .int (iI (pSz sm + 1)), .ref s3, .int (iI (bI (hs = true))), .ref s4, .int (iI (len)), .ref m1, .ref m2, .ref m3, .ref m4, .int (iI (ax)), .ref l1, .ref l2, .int (iI (rm)), .long (hh)])), (s2, zI G 288 (svS V sm S)), (s1, zI G 48 (S))] 23 [(0, .ref m), (1, .int (iI (q)))] []
  refine z_aload_n (pc := 23) hX 0 rfl rfl dX6_drop_23 ?_
  refine z_get (pc := 24) hX (T := TX6) (C := RX6) (N := 17) (i := 7) (ref := "SignLettersModel") (name := "s") (desc := "[I") hX6_drop_X6 0 rfl rfl 1 (by decide) kX6_drop_f7 ⟨rfl, rfl, rfl⟩ (v := .ref s1) rfl dX6_drop_24 ?_
  refine z_bipush (pc := 27) hX (z := 7) (by decide +kernel) dX6_drop_27 ?_
  refine z_dup2 (pc := 29) hX rfl rfl dX6_drop_29 ?_
  refine z_iald (pc := 30) hX (N := 48) (F := S) 2 rfl (by omega) (by omega) dX6_drop_30 ?_
  refine z_iconst (pc := 31) hX dX6_drop_31 ?_
  refine z_isub (pc := 32) hX dX6_drop_32 ?_
  refine z_iast (pc := 33) hX (N := 48) (F := S) (WS' := [(m, .inr (6, [.int (iI (0)), .ref s1, .ref s2, .int (iI (pSz sm + 1)), .ref s3, .int (iI (bI (hs = true))), .ref s4, .int (iI (len)), .ref m1, .ref m2, .ref m3, .ref m4, .int (iI (ax)), .ref l1, .ref l2, .int (iI (rm)), .long (hh)])), (s2, zI G 288 (svS V sm S)), (s1, zI G 48 (uZ S 7 ((S 7) - 1)))]) 2 rfl (by omega) (by omega) rfl dX6_drop_33 ?_
  refine z_iload_n (pc := 34) hX 1 rfl rfl dX6_drop_34 ?_
  refine z_istore_n (pc := 35) hX (loc' := [(2, .int (iI (q))), (0, .ref m), (1, .int (iI (q)))]) rfl (by decide) rfl dX6_drop_35 ?_
  have cut_36 : ∀ (fz : Nat) (i : Int) (S1 : Int → Int) (h0 : q ≤ i) (h1 : i ≤ S 7 - 1) (h7 : S1 7 = S 7 - 1) (ha : ∀ j : Int, 0 ≤ j → j < 7 → S1 j = S j) (hb : ∀ j : Int, 0 ≤ j → j < 20 → S1 (8 + j) = if q ≤ j ∧ j < i then S (8 + j + 1) else S (8 + j)) (hc : ∀ j : Int, 0 ≤ j → j < 20 → S1 (28 + j) = if q ≤ j ∧ j < i then S (28 + j + 1) else S (28 + j)) (hm_36 : S 7 - i < (fz : Int)), Z G X 3 (0) (0) [(m, .inr (6, [.int (iI (0)), .ref s1, .ref s2, .int (iI (pSz sm + 1)), .ref s3, .int (iI (bI (hs = true))), .ref s4, .int (iI (len)), .ref m1, .ref m2, .ref m3, .ref m4, .int (iI (ax)), .ref l1, .ref l2, .int (iI (rm)), .long (hh)])), (s2, zI G 288 (svS V sm S)), (s1, zI G 48 (S1))] 36 [(0, .ref m), (1, .int (iI (q))), (2, .int (iI (i)))] [] := by
    intro fz
    induction fz with
    | zero =>
      intro i S1 h0 h1 h7 ha hb hc hm_36
      exfalso
      omega
    | succ fz ih =>
      intro i S1 h0 h1 h7 ha hb hc hm_36
      have ih_36 := ih
      clear ih
      refine z_iload_n (pc := 36) hX 2 rfl rfl dX6_drop_36 ?_
      refine z_aload_n (pc := 37) hX 0 rfl rfl dX6_drop_37 ?_
      refine z_get (pc := 38) hX (T := TX6) (C := RX6) (N := 17) (i := 7) (ref := "SignLettersModel") (name := "s") (desc := "[I") hX6_drop_X6 0 rfl rfl 1 (by decide) kX6_drop_f7 ⟨rfl, rfl, rfl⟩ (v := .ref s1) rfl dX6_drop_38 ?_
      refine z_bipush (pc := 41) hX (z := 7) (by decide +kernel) dX6_drop_41 ?_
      refine z_iald (pc := 43) hX (N := 48) (F := S1) 2 rfl (by omega) (by omega) dX6_drop_43 ?_
      refine z_icmp_ge (pc := 44) (tgt := 93) hX (by decide) (by omega) (by omega) dX6_drop_44 (fun c_4 => ?_) (fun c_4 => ?_)
      · refine z_aload_n (pc := 93) hX 0 rfl rfl dX6_drop_93 ?_
        refine z_get (pc := 94) hX (T := TX6) (C := RX6) (N := 17) (i := 7) (ref := "SignLettersModel") (name := "s") (desc := "[I") hX6_drop_X6 0 rfl rfl 1 (by decide) kX6_drop_f7 ⟨rfl, rfl, rfl⟩ (v := .ref s1) rfl dX6_drop_94 ?_
        refine z_bipush (pc := 97) hX (z := 8) (by decide +kernel) dX6_drop_97 ?_
        refine z_aload_n (pc := 99) hX 0 rfl rfl dX6_drop_99 ?_
        refine z_get (pc := 100) hX (T := TX6) (C := RX6) (N := 17) (i := 7) (ref := "SignLettersModel") (name := "s") (desc := "[I") hX6_drop_X6 0 rfl rfl 1 (by decide) kX6_drop_f7 ⟨rfl, rfl, rfl⟩ (v := .ref s1) rfl dX6_drop_100 ?_
        refine z_bipush (pc := 103) hX (z := 7) (by decide +kernel) dX6_drop_103 ?_
        refine z_iald (pc := 105) hX (N := 48) (F := S1) 2 rfl (by omega) (by omega) dX6_drop_105 ?_
        refine z_iadd (pc := 106) hX dX6_drop_106 ?_
        refine z_iconst (pc := 107) hX dX6_drop_107 ?_
        refine z_iast (pc := 108) hX (N := 48) (F := S1) (WS' := [(m, .inr (6, [.int (iI (0)), .ref s1, .ref s2, .int (iI (pSz sm + 1)), .ref s3, .int (iI (bI (hs = true))), .ref s4, .int (iI (len)), .ref m1, .ref m2, .ref m3, .ref m4, .int (iI (ax)), .ref l1, .ref l2, .int (iI (rm)), .long (hh)])), (s2, zI G 288 (svS V sm S)), (s1, zI G 48 (uZ S1 (8 + (S1 7)) 0))]) 2 rfl (by omega) (by omega) rfl dX6_drop_108 ?_
        have h79 : uZ S1 (8 + (S1 7)) 0 7 = S1 7 := uZ_ne (by omega)
        refine z_aload_n (pc := 109) hX 0 rfl rfl dX6_drop_109 ?_
        refine z_get (pc := 110) hX (T := TX6) (C := RX6) (N := 17) (i := 7) (ref := "SignLettersModel") (name := "s") (desc := "[I") hX6_drop_X6 0 rfl rfl 1 (by decide) kX6_drop_f7 ⟨rfl, rfl, rfl⟩ (v := .ref s1) rfl dX6_drop_110 ?_
        refine z_bipush (pc := 113) hX (z := 28) (by decide +kernel) dX6_drop_113 ?_
        refine z_aload_n (pc := 115) hX 0 rfl rfl dX6_drop_115 ?_
        refine z_get (pc := 116) hX (T := TX6) (C := RX6) (N := 17) (i := 7) (ref := "SignLettersModel") (name := "s") (desc := "[I") hX6_drop_X6 0 rfl rfl 1 (by decide) kX6_drop_f7 ⟨rfl, rfl, rfl⟩ (v := .ref s1) rfl dX6_drop_116 ?_
        refine z_bipush (pc := 119) hX (z := 7) (by decide +kernel) dX6_drop_119 ?_
        refine z_iald (pc := 121) hX (N := 48) (F := uZ S1 (8 + (S1 7)) 0) 2 rfl (by omega) (by omega) dX6_drop_121 ?_
        refine z_iadd (pc := 122) hX dX6_drop_122 ?_
        refine z_iconst (pc := 123) hX dX6_drop_123 ?_
        refine z_iast (pc := 124) hX (N := 48) (F := uZ S1 (8 + (S1 7)) 0) (WS' := [(m, .inr (6, [.int (iI (0)), .ref s1, .ref s2, .int (iI (pSz sm + 1)), .ref s3, .int (iI (bI (hs = true))), .ref s4, .int (iI (len)), .ref m1, .ref m2, .ref m3, .ref m4, .int (iI (ax)), .ref l1, .ref l2, .int (iI (rm)), .long (hh)])), (s2, zI G 288 (svS V sm S)), (s1, zI G 48 (uZ (uZ S1 (8 + (S1 7)) 0) (28 + ((uZ S1 (8 + (S1 7)) 0) 7)) 0))]) 2 rfl (by omega) (by omega) rfl dX6_drop_124 ?_
        refine z_aload_n (pc := 125) hX 0 rfl rfl dX6_drop_125 ?_
        refine z_get (pc := 126) hX (T := TX6) (C := RX6) (N := 17) (i := 7) (ref := "SignLettersModel") (name := "s") (desc := "[I") hX6_drop_X6 0 rfl rfl 1 (by decide) kX6_drop_f7 ⟨rfl, rfl, rfl⟩ (v := .ref s1) rfl dX6_drop_126 ?_
        refine z_bipush (pc := 129) hX (z := 7) (by decide +kernel) dX6_drop_129 ?_
        refine z_iald (pc := 131) hX (N := 48) (F := uZ (uZ S1 (8 + (S1 7)) 0) (28 + ((uZ S1 (8 + (S1 7)) 0) 7)) 0) 2 rfl (by omega) (by omega) dX6_drop_131 ?_
        exact ex _ _ _ (uZ (uZ S1 (8 + (S1 7)) 0) (28 + ((uZ S1 (8 + (S1 7)) 0) 7)) 0) _ dX6_drop_132 rfl ⟨(congrArg iI (show ((uZ (uZ S1 (8 + (S1 7)) 0) (28 + ((uZ S1 (8 + (S1 7)) 0) 7)) 0) 7 : Int) = S 7 - 1 from by rw [uZ_ne (by omega), uZ_ne (by omega)]; exact h7)), (by intro j j0 j1; rw [uZ_ne (by omega), uZ_ne (by omega)]; exact ha j j0 j1), (by rw [uZ_ne (by omega), uZ_ne (by omega)]; exact h7), (by intro j j0 j1; rw [uZ_ne (by omega), uZ_ne (by omega), hb j j0 (by omega)]; unfold remZ sF; by_cases e8 : q ≤ j ∧ j < i; (rw [if_pos e8, if_pos (by omega), show 8 + (j + 1) = 8 + j + 1 by omega]); (rw [if_neg e8, if_neg (by omega)])), (by intro j j0 j1; rw [uZ_ne (by omega), uZ_ne (by omega), hc j j0 (by omega)]; unfold remZ sK; by_cases e8 : q ≤ j ∧ j < i; (rw [if_pos e8, if_pos (by omega), show 28 + (j + 1) = 28 + j + 1 by omega]); (rw [if_neg e8, if_neg (by omega)]))⟩ rfl
      · refine z_aload_n (pc := 47) hX 0 rfl rfl dX6_drop_47 ?_
        refine z_get (pc := 48) hX (T := TX6) (C := RX6) (N := 17) (i := 7) (ref := "SignLettersModel") (name := "s") (desc := "[I") hX6_drop_X6 0 rfl rfl 1 (by decide) kX6_drop_f7 ⟨rfl, rfl, rfl⟩ (v := .ref s1) rfl dX6_drop_48 ?_
        refine z_bipush (pc := 51) hX (z := 8) (by decide +kernel) dX6_drop_51 ?_
        refine z_iload_n (pc := 53) hX 2 rfl rfl dX6_drop_53 ?_
        refine z_iadd (pc := 54) hX dX6_drop_54 ?_
        refine z_aload_n (pc := 55) hX 0 rfl rfl dX6_drop_55 ?_
        refine z_get (pc := 56) hX (T := TX6) (C := RX6) (N := 17) (i := 7) (ref := "SignLettersModel") (name := "s") (desc := "[I") hX6_drop_X6 0 rfl rfl 1 (by decide) kX6_drop_f7 ⟨rfl, rfl, rfl⟩ (v := .ref s1) rfl dX6_drop_56 ?_
        refine z_bipush (pc := 59) hX (z := 8) (by decide +kernel) dX6_drop_59 ?_
        refine z_iload_n (pc := 61) hX 2 rfl rfl dX6_drop_61 ?_
        refine z_iadd (pc := 62) hX dX6_drop_62 ?_
        refine z_iconst (pc := 63) hX dX6_drop_63 ?_
        refine z_iadd (pc := 64) hX dX6_drop_64 ?_
        refine z_iald (pc := 65) hX (N := 48) (F := S1) 2 rfl (by omega) (by omega) dX6_drop_65 ?_
        refine z_iast (pc := 66) hX (N := 48) (F := S1) (WS' := [(m, .inr (6, [.int (iI (0)), .ref s1, .ref s2, .int (iI (pSz sm + 1)), .ref s3, .int (iI (bI (hs = true))), .ref s4, .int (iI (len)), .ref m1, .ref m2, .ref m3, .ref m4, .int (iI (ax)), .ref l1, .ref l2, .int (iI (rm)), .long (hh)])), (s2, zI G 288 (svS V sm S)), (s1, zI G 48 (uZ S1 (8 + i) (S1 ((8 + i) + 1))))]) 2 rfl (by omega) (by omega) rfl dX6_drop_66 ?_
        refine z_aload_n (pc := 67) hX 0 rfl rfl dX6_drop_67 ?_
        refine z_get (pc := 68) hX (T := TX6) (C := RX6) (N := 17) (i := 7) (ref := "SignLettersModel") (name := "s") (desc := "[I") hX6_drop_X6 0 rfl rfl 1 (by decide) kX6_drop_f7 ⟨rfl, rfl, rfl⟩ (v := .ref s1) rfl dX6_drop_68 ?_
        refine z_bipush (pc := 71) hX (z := 28) (by decide +kernel) dX6_drop_71 ?_
        refine z_iload_n (pc := 73) hX 2 rfl rfl dX6_drop_73 ?_
        refine z_iadd (pc := 74) hX dX6_drop_74 ?_
        refine z_aload_n (pc := 75) hX 0 rfl rfl dX6_drop_75 ?_
        refine z_get (pc := 76) hX (T := TX6) (C := RX6) (N := 17) (i := 7) (ref := "SignLettersModel") (name := "s") (desc := "[I") hX6_drop_X6 0 rfl rfl 1 (by decide) kX6_drop_f7 ⟨rfl, rfl, rfl⟩ (v := .ref s1) rfl dX6_drop_76 ?_
        refine z_bipush (pc := 79) hX (z := 28) (by decide +kernel) dX6_drop_79 ?_
        refine z_iload_n (pc := 81) hX 2 rfl rfl dX6_drop_81 ?_
        refine z_iadd (pc := 82) hX dX6_drop_82 ?_
        refine z_iconst (pc := 83) hX dX6_drop_83 ?_
        refine z_iadd (pc := 84) hX dX6_drop_84 ?_
        refine z_iald (pc := 85) hX (N := 48) (F := uZ S1 (8 + i) (S1 ((8 + i) + 1))) 2 rfl (by omega) (by omega) dX6_drop_85 ?_
        refine z_iast (pc := 86) hX (N := 48) (F := uZ S1 (8 + i) (S1 ((8 + i) + 1))) (WS' := [(m, .inr (6, [.int (iI (0)), .ref s1, .ref s2, .int (iI (pSz sm + 1)), .ref s3, .int (iI (bI (hs = true))), .ref s4, .int (iI (len)), .ref m1, .ref m2, .ref m3, .ref m4, .int (iI (ax)), .ref l1, .ref l2, .int (iI (rm)), .long (hh)])), (s2, zI G 288 (svS V sm S)), (s1, zI G 48 (uZ (uZ S1 (8 + i) (S1 ((8 + i) + 1))) (28 + i) ((uZ S1 (8 + i) (S1 ((8 + i) + 1))) ((28 + i) + 1))))]) 2 rfl (by omega) (by omega) rfl dX6_drop_86 ?_
        refine z_iinc (pc := 87) hX (loc' := [(2, .int (iI (i + 1))), (0, .ref m), (1, .int (iI (q)))]) 2 rfl (by decide) rfl dX6_drop_87 ?_
        refine z_goto (pc := 90) (tgt := 36) hX (by decide) dX6_drop_90 ?_
        refine z_at [1, 2, 0] [0, 1, 2] (loc' := [(0, .ref m), (1, .int (iI (q))), (2, .int (iI ((i + 1))))]) (WS' := [(m, .inr (6, [.int (iI (0)), .ref s1, .ref s2, .int (iI (pSz sm + 1)), .ref s3, .int (iI (bI (hs = true))), .ref s4, .int (iI (len)), .ref m1, .ref m2, .ref m3, .ref m4, .int (iI (ax)), .ref l1, .ref l2, .int (iI (rm)), .long (hh)])), (s2, zI G 288 (svS V sm S)), (s1, zI G 48 ((uZ (uZ S1 (8 + i) (S1 ((8 + i) + 1))) (28 + i) ((uZ S1 (8 + i) (S1 ((8 + i) + 1))) ((28 + i) + 1)))))]) rfl (by decide) rfl ?_
        exact ih_36 (i + 1) (uZ (uZ S1 (8 + i) (S1 ((8 + i) + 1))) (28 + i) ((uZ S1 (8 + i) (S1 ((8 + i) + 1))) ((28 + i) + 1))) (by first | assumption | omega | (clear ex hX ih_36; grind [uZ])) (by first | assumption | omega | (clear ex hX ih_36; grind [uZ])) (by rw [uZ_ne (by omega), uZ_ne (by omega)]; exact h7) (by intro j j0 j1; rw [uZ_ne (by omega), uZ_ne (by omega)]; exact ha j j0 j1) (by intro j j0 j1; rw [uZ_ne (by omega)]; by_cases e9 : j = i; (rw [e9, uZ_at, show 8 + i + 1 = 8 + (i + 1) by omega, hb (i + 1) (by omega) (by omega), if_neg (by omega), if_pos (by omega)]; try rw [show 8 + i + 1 = 8 + (i + 1) by omega]); (rw [uZ_ne (by omega), hb j j0 j1]; by_cases e8 : q ≤ j ∧ j < i; (rw [if_pos e8, if_pos (by omega)]); (rw [if_neg e8, if_neg (by omega)]))) (by intro j j0 j1; by_cases e9 : j = i; (rw [e9, uZ_at, uZ_ne (by omega), show 28 + i + 1 = 28 + (i + 1) by omega, hc (i + 1) (by omega) (by omega), if_neg (by omega), if_pos (by omega)]; try rw [show 28 + i + 1 = 28 + (i + 1) by omega]); (rw [uZ_ne (by omega), uZ_ne (by omega), hc j j0 j1]; by_cases e8 : q ≤ j ∧ j < i; (rw [if_pos e8, if_pos (by omega)]); (rw [if_neg e8, if_neg (by omega)]))) (by omega)
  refine z_at [1, 2, 0] [0, 1, 2] (loc' := [(0, .ref m), (1, .int (iI (q))), (2, .int (iI (q)))]) (WS' := [(m, .inr (6, [.int (iI (0)), .ref s1, .ref s2, .int (iI (pSz sm + 1)), .ref s3, .int (iI (bI (hs = true))), .ref s4, .int (iI (len)), .ref m1, .ref m2, .ref m3, .ref m4, .int (iI (ax)), .ref l1, .ref l2, .int (iI (rm)), .long (hh)])), (s2, zI G 288 (svS V sm S)), (s1, zI G 48 ((uZ S 7 ((S 7) - 1))))]) rfl (by decide) rfl ?_
  exact cut_36 (Int.toNat (S 7 - q) + 1) (q) (uZ S 7 ((S 7) - 1)) (by first | assumption | omega | (clear ex hX cut_36; grind [uZ])) (by first | assumption | omega | (clear ex hX cut_36; grind [uZ])) (by rw [uZ_at]) (by intro j j0 j1; rw [uZ_ne (by omega)]) (by intro j j0 j1; rw [uZ_ne (by omega), if_neg (by omega)]) (by intro j j0 j1; rw [uZ_ne (by omega), if_neg (by omega)]) (by omega)
set_option maxHeartbeats 400000 in
set_option maxRecDepth 100000 in
theorem mX6_drop_no (G : ZG) (m : Nat) (s1 : Nat) (s2 : Nat) (s3 : Nat) (s4 : Nat) (m1 : Nat) (m2 : Nat) (m3 : Nat) (m4 : Nat) (l1 : Nat) (l2 : Nat) (th : Int) (sm : Int) (len : Int) (ax : Int) (rm : Int) (hs : Bool) (hh : Int64) (S : Int → Int) (q : Int) (hn : 0 ≤ S 7 ∧ S 7 ≤ 20) (hq : -2147483648 ≤ q ∧ q < 2147483648) (hbad : ¬ ((0 ≤ q ∧ q < S 7))) : zMeti yX6_drop wsX6_drop { frames := 2, cells := 0, slots := 0, locals := 43 } G [.ref m, .int (iI (q))] [(m, .inr (6, [.int (iI (th)), .ref s1, .ref s2, .int (iI (sm)), .ref s3, .int (iI (bI (hs = true))), .ref s4, .int (iI (len)), .ref m1, .ref m2, .ref m3, .ref m4, .int (iI (ax)), .ref l1, .ref l2, .int (iI (rm)), .long (hh)])), (s1, zI G 48 (S))] (fun (rr : Int32) (uu : Unit) => rr = iI (0)) (fun (uu : Unit) => [(m, .inr (6, [.int (iI (if 0 ≤ q ∧ q < S 7 then (0) else 1)), .ref s1, .ref s2, .int (iI (sm)), .ref s3, .int (iI (bI (hs = true))), .ref s4, .int (iI (len)), .ref m1, .ref m2, .ref m3, .ref m4, .int (iI (ax)), .ref l1, .ref l2, .int (iI (rm)), .long (hh)])), (s1, zI G 48 (S))]) 0 0 := by
  refine z_meti (cc := cX6_drop) (nL := 3) (rt := .int) (by decide +kernel) rfl (Nat.le_of_ble_eq_true rfl) (fun X hX ex => ?_)
  have hX : ZOk G X 3 cX6_drop RX6 wsX6_drop { frames := 2, cells := 0, slots := 0, locals := 43 } := hX
  show Z G X 3 (0) (0) [(m, .inr (6, [.int (iI (th)), .ref s1, .ref s2, .int (iI (sm)), .ref s3, .int (iI (bI (hs = true))), .ref s4, .int (iI (len)), .ref m1, .ref m2, .ref m3, .ref m4, .int (iI (ax)), .ref l1, .ref l2, .int (iI (rm)), .long (hh)])), (s1, zI G 48 (S))] 0 [(0, .ref m), (1, .int (iI (q)))] []
  refine z_aload_n (pc := 0) hX 0 rfl rfl dX6_drop_0 ?_
  refine z_iconst (pc := 1) hX dX6_drop_1 ?_
  refine z_put (pc := 2) hX (T := TX6) (C := RX6) (N := 17) (i := 40) (ref := "SignLettersModel") (name := "thrown") (desc := "I") (WS' := [(m, .inr (6, [.int (iI (0)), .ref s1, .ref s2, .int (iI (sm)), .ref s3, .int (iI (bI (hs = true))), .ref s4, .int (iI (len)), .ref m1, .ref m2, .ref m3, .ref m4, .int (iI (ax)), .ref l1, .ref l2, .int (iI (rm)), .long (hh)])), (s1, zI G 48 (S))]) tyX6 tyX6_ok nmX6 hX6_drop_X6 0 rfl rfl 0 (by decide) kX6_drop_f40 ⟨rfl, rfl, rfl⟩ rfl (ty := .int) (by decide +kernel) rfl rfl (Nat.le_of_ble_eq_true rfl) rfl dX6_drop_2 ?_
  refine z_aload_n (pc := 5) hX 0 rfl rfl dX6_drop_5 ?_
  refine z_iload_n (pc := 6) hX 1 rfl rfl dX6_drop_6 ?_
  refine z_callV_i (pc := 7) (As := [.int (iI (q))]) (rest := []) (wc := [(m, .inr (6, [.int (iI (0)), .ref s1, .ref s2, .int (iI (sm)), .ref s3, .int (iI (bI (hs = true))), .ref s4, .int (iI (len)), .ref m1, .ref m2, .ref m3, .ref m4, .int (iI (ax)), .ref l1, .ref l2, .int (iI (rm)), .long (hh)])), (s1, zI G 48 (S))]) (wr := []) hX (mX6_isItem G (m) (s1) (s2) (s3) (s4) (m1) (m2) (m3) (m4) (l1) (l2) (0) (sm) (len) (ax) (rm) (hs) (hh) (S) (q) (by first | assumption | omega | (clear ex hX; grind [uZ])) (by first | assumption | omega | (clear ex hX; grind [uZ]))) rfl rfl rfl (C := RX6) gX6_drop_X6_isItem ⟨rfl, hdX6_isItem⟩ (T := TX6) (N := 17) 0 rfl rfl ⟨Nat.le_of_ble_eq_true rfl, Nat.le_of_ble_eq_true rfl⟩ [0, 1] [] rfl rfl (by decide) (by decide) (by decide) rfl (Nat.le_of_ble_eq_true rfl) ⟨Nat.le_of_ble_eq_true rfl, Nat.le_of_ble_eq_true rfl⟩ dX6_drop_7 (fun r_1 u_1 h_1 => ?_)
  subst h_1
  show Z G X 3 (0) (0) [(m, .inr (6, [.int (iI (0)), .ref s1, .ref s2, .int (iI (sm)), .ref s3, .int (iI (bI (hs = true))), .ref s4, .int (iI (len)), .ref m1, .ref m2, .ref m3, .ref m4, .int (iI (ax)), .ref l1, .ref l2, .int (iI (rm)), .long (hh)])), (s1, zI G 48 (S))] 10 [(0, .ref m), (1, .int (iI (q)))] [.int (iI (bI (0 ≤ q ∧ q < S 7)))]
  refine z_bif_ne (pc := 10) (tgt := 19) hX (by decide) dX6_drop_10 (fun c_2 => ?_) (fun c_2 => ?_)
  · exact absurd (by assumption) hbad
  · refine z_aload_n (pc := 13) hX 0 rfl rfl dX6_drop_13 ?_
    refine z_iconst (pc := 14) hX dX6_drop_14 ?_
    refine z_callV_i (pc := 15) (As := [.int (iI (1))]) (rest := []) (wc := [(m, .inr (6, [.int (iI (0)), .ref s1, .ref s2, .int (iI (sm)), .ref s3, .int (iI (bI (hs = true))), .ref s4, .int (iI (len)), .ref m1, .ref m2, .ref m3, .ref m4, .int (iI (ax)), .ref l1, .ref l2, .int (iI (rm)), .long (hh)]))]) (wr := [(s1, zI G 48 (S))]) hX (mX6_fails G (m) (s1) (s2) (s3) (s4) (m1) (m2) (m3) (m4) (l1) (l2) (0) (sm) (len) (ax) (rm) (hs) (hh) (S) (1) ) rfl rfl rfl (C := RX6) gX6_drop_X6_fails ⟨rfl, hdX6_fails⟩ (T := TX6) (N := 17) 0 rfl rfl ⟨Nat.le_of_ble_eq_true rfl, Nat.le_of_ble_eq_true rfl⟩ [0] [1] rfl rfl (by decide) (by decide) (by decide) rfl (Nat.le_of_ble_eq_true rfl) ⟨Nat.le_of_ble_eq_true rfl, Nat.le_of_ble_eq_true rfl⟩ dX6_drop_15 (fun r_3 u_3 h_3 => ?_)
    subst h_3
    show Z G X 3 (0) (0) [(s1, zI G 48 (S)), (m, .inr (6, [.int (iI (1)), .ref s1, .ref s2, .int (iI (sm)), .ref s3, .int (iI (bI (hs = true))), .ref s4, .int (iI (len)), .ref m1, .ref m2, .ref m3, .ref m4, .int (iI (ax)), .ref l1, .ref l2, .int (iI (rm)), .long (hh)]))] 18 [(0, .ref m), (1, .int (iI (q)))] [.int (iI (0))]
    refine z_at [0, 1] [1, 0] (loc' := [(0, .ref m), (1, .int (iI (q)))]) (WS' := [(m, .inr (6, [.int (iI (1)), .ref s1, .ref s2, .int (iI (sm)), .ref s3, .int (iI (bI (hs = true))), .ref s4, .int (iI (len)), .ref m1, .ref m2, .ref m3, .ref m4, .int (iI (ax)), .ref l1, .ref l2, .int (iI (rm)), .long (hh)])), (s1, zI G 48 (S))]) rfl (by decide) rfl ?_
    refine (congrArg (fun z_ : Int => Z G X 3 (0) (0) [(m, .inr (6, [.int (iI (z_)), .ref s1, .ref s2, .int (iI (sm)), .ref s3, .int (iI (bI (hs = true))), .ref s4, .int (iI (len)), .ref m1, .ref m2, .ref m3, .ref m4, .int (iI (ax)), .ref l1, .ref l2, .int (iI (rm)), .long (hh)])), (s1, zI G 48 (S))] 18 [(0, .ref m), (1, .int (iI (q)))] [.int (iI (0))]) (show (1 : Int) = if 0 ≤ q ∧ q < S 7 then (0) else 1 from by first | rfl | (rw [if_neg (by omega)]; done) | (rw [if_pos (by omega), if_neg (by omega)]; done) | (rw [if_pos (by omega), if_pos (by omega), if_neg (by omega)]; done) | (rw [if_pos (by omega), if_pos (by omega), if_pos (by omega)]; done))).mpr ?_
    exact ex _ _ _ () _ dX6_drop_18 rfl rfl rfl
theorem hX6_exchanges_X6 : ∀ w ∈ wsX60, w ∈ wsX6_exchanges := by decide +kernel
theorem kX6_exchanges_f7 : Cond.fieldLink RX6 7 "SignLettersModel" "s" "[I" ∈ wsX6_exchanges := by decide +kernel
set_option maxHeartbeats 400000 in
set_option maxRecDepth 100000 in
theorem mX6_exchanges (G : ZG) (m : Nat) (s1 : Nat) (s2 : Nat) (s3 : Nat) (s4 : Nat) (m1 : Nat) (m2 : Nat) (m3 : Nat) (m4 : Nat) (l1 : Nat) (l2 : Nat) (th : Int) (sm : Int) (len : Int) (ax : Int) (rm : Int) (hs : Bool) (hh : Int64) (S : Int → Int) (p : Int) (q : Int) (hp : 0 ≤ p ∧ p < 48) (hq : 0 ≤ q ∧ q < 48) : zMetv yX6_exchanges wsX6_exchanges { frames := 0, cells := 0, slots := 0, locals := 0 } G [.ref m, .int (iI (p)), .int (iI (q))] [(m, .inr (6, [.int (iI (th)), .ref s1, .ref s2, .int (iI (sm)), .ref s3, .int (iI (bI (hs = true))), .ref s4, .int (iI (len)), .ref m1, .ref m2, .ref m3, .ref m4, .int (iI (ax)), .ref l1, .ref l2, .int (iI (rm)), .long (hh)])), (s1, zI G 48 (S))] (fun (uu : Unit) => True) (fun (uu : Unit) => [(m, .inr (6, [.int (iI (th)), .ref s1, .ref s2, .int (iI (sm)), .ref s3, .int (iI (bI (hs = true))), .ref s4, .int (iI (len)), .ref m1, .ref m2, .ref m3, .ref m4, .int (iI (ax)), .ref l1, .ref l2, .int (iI (rm)), .long (hh)])), (s1, zI G 48 (exZ S p q))]) 0 0 := by
  refine z_metv (cc := cX6_exchanges) (nL := 4) (by decide +kernel) rfl (Nat.le_of_ble_eq_true rfl) (fun X hX ex => ?_)
  have hX : ZOk G X 4 cX6_exchanges RX6 wsX6_exchanges { frames := 0, cells := 0, slots := 0, locals := 0 } := hX
  show Z G X 4 (0) (0) [(m, .inr (6, [.int (iI (th)), .ref s1, .ref s2, .int (iI (sm)), .ref s3, .int (iI (bI (hs = true))), .ref s4, .int (iI (len)), .ref m1, .ref m2, .ref m3, .ref m4, .int (iI (ax)), .ref l1, .ref l2, .int (iI (rm)), .long (hh)])), (s1, zI G 48 (S))] 0 [(0, .ref m), (1, .int (iI (p))), (2, .int (iI (q)))] []
  refine z_aload_n (pc := 0) hX 0 rfl rfl dX6_exchanges_0 ?_
  refine z_get (pc := 1) hX (T := TX6) (C := RX6) (N := 17) (i := 7) (ref := "SignLettersModel") (name := "s") (desc := "[I") hX6_exchanges_X6 0 rfl rfl 1 (by decide) kX6_exchanges_f7 ⟨rfl, rfl, rfl⟩ (v := .ref s1) rfl dX6_exchanges_1 ?_
  refine z_iload_n (pc := 4) hX 1 rfl rfl dX6_exchanges_4 ?_
  refine z_iald (pc := 5) hX (N := 48) (F := S) 1 rfl (by omega) (by omega) dX6_exchanges_5 ?_
  refine z_istore_n (pc := 6) hX (loc' := [(3, .int (iI (S p))), (0, .ref m), (1, .int (iI (p))), (2, .int (iI (q)))]) rfl (by decide) rfl dX6_exchanges_6 ?_
  refine z_aload_n (pc := 7) hX 1 rfl rfl dX6_exchanges_7 ?_
  refine z_get (pc := 8) hX (T := TX6) (C := RX6) (N := 17) (i := 7) (ref := "SignLettersModel") (name := "s") (desc := "[I") hX6_exchanges_X6 0 rfl rfl 1 (by decide) kX6_exchanges_f7 ⟨rfl, rfl, rfl⟩ (v := .ref s1) rfl dX6_exchanges_8 ?_
  refine z_iload_n (pc := 11) hX 2 rfl rfl dX6_exchanges_11 ?_
  refine z_aload_n (pc := 12) hX 1 rfl rfl dX6_exchanges_12 ?_
  refine z_get (pc := 13) hX (T := TX6) (C := RX6) (N := 17) (i := 7) (ref := "SignLettersModel") (name := "s") (desc := "[I") hX6_exchanges_X6 0 rfl rfl 1 (by decide) kX6_exchanges_f7 ⟨rfl, rfl, rfl⟩ (v := .ref s1) rfl dX6_exchanges_13 ?_
  refine z_iload_n (pc := 16) hX 3 rfl rfl dX6_exchanges_16 ?_
  refine z_iald (pc := 17) hX (N := 48) (F := S) 1 rfl (by omega) (by omega) dX6_exchanges_17 ?_
  refine z_iast (pc := 18) hX (N := 48) (F := S) (WS' := [(m, .inr (6, [.int (iI (th)), .ref s1, .ref s2, .int (iI (sm)), .ref s3, .int (iI (bI (hs = true))), .ref s4, .int (iI (len)), .ref m1, .ref m2, .ref m3, .ref m4, .int (iI (ax)), .ref l1, .ref l2, .int (iI (rm)), .long (hh)])), (s1, zI G 48 (uZ S p (S q)))]) 1 rfl (by omega) (by omega) rfl dX6_exchanges_18 ?_
  refine z_aload_n (pc := 19) hX 1 rfl rfl dX6_exchanges_19 ?_
  refine z_get (pc := 20) hX (T := TX6) (C := RX6) (N := 17) (i := 7) (ref := "SignLettersModel") (name := "s") (desc := "[I") hX6_exchanges_X6 0 rfl rfl 1 (by decide) kX6_exchanges_f7 ⟨rfl, rfl, rfl⟩ (v := .ref s1) rfl dX6_exchanges_20 ?_
  refine z_iload_n (pc := 23) hX 3 rfl rfl dX6_exchanges_23 ?_
  refine z_iload_n (pc := 24) hX 0 rfl rfl dX6_exchanges_24 ?_
  refine z_iast (pc := 25) hX (N := 48) (F := uZ S p (S q)) (WS' := [(m, .inr (6, [.int (iI (th)), .ref s1, .ref s2, .int (iI (sm)), .ref s3, .int (iI (bI (hs = true))), .ref s4, .int (iI (len)), .ref m1, .ref m2, .ref m3, .ref m4, .int (iI (ax)), .ref l1, .ref l2, .int (iI (rm)), .long (hh)])), (s1, zI G 48 (uZ (uZ S p (S q)) q (S p)))]) 1 rfl (by omega) (by omega) rfl dX6_exchanges_25 ?_
  refine z_arrX (N := 48) (F := uZ (uZ S p (S q)) q (S p)) (F1 := exZ S p q) (WS1 := [(m, .inr (6, [.int (iI (th)), .ref s1, .ref s2, .int (iI (sm)), .ref s3, .int (iI (bI (hs = true))), .ref s4, .int (iI (len)), .ref m1, .ref m2, .ref m3, .ref m4, .int (iI (ax)), .ref l1, .ref l2, .int (iI (rm)), .long (hh)])), (s1, zI G 48 (exZ S p q))]) 1 rfl (fun j hj0 hj1 => by rfl) rfl ?_
  exact ex _ _ () _ dX6_exchanges_26 trivial rfl
theorem hX6_swap_X6 : ∀ w ∈ wsX60, w ∈ wsX6_swap := by decide +kernel
theorem hdX6_exchanges : yX6_exchanges.cls ≠ "java/lang/invoke/MethodHandle" ∧ yX6_exchanges.cls ≠ "java/lang/invoke/VarHandle" ∧ (parseMethodDescriptor yX6_exchanges.desc).map (fun d => d.parameters.length) = some 2 := by decide +kernel
theorem hdX6_width : yX6_width.cls ≠ "java/lang/invoke/MethodHandle" ∧ yX6_width.cls ≠ "java/lang/invoke/VarHandle" ∧ (parseMethodDescriptor yX6_width.desc).map (fun d => d.parameters.length) = some 0 := by decide +kernel
theorem kX6_swap_f40 : Cond.fieldLink RX6 40 "SignLettersModel" "thrown" "I" ∈ wsX6_swap := by decide +kernel
set_option maxHeartbeats 400000 in
set_option maxRecDepth 100000 in
theorem mX6_swap_ok (G : ZG) (m : Nat) (s1 : Nat) (s2 : Nat) (s3 : Nat) (s4 : Nat) (m1 : Nat) (m2 : Nat) (m3 : Nat) (m4 : Nat) (l1 : Nat) (l2 : Nat) (th : Int) (sm : Int) (len : Int) (ax : Int) (rm : Int) (hs : Bool) (hh : Int64) (S : Int → Int) (V : Int → Int) (B0 : Int → Int) (N0 : Int → Int) (G0 : Int → Int) (A : Int → Int) (q : Int) (w : Int) (hsm : 0 ≤ sm ∧ sm ≤ 6) (hE : okE S) (hn : 0 ≤ S 7 ∧ S 7 ≤ 20) (hF : okF (sF S) (S 7)) (hK : okK (sK S) (S 7)) (hq : -2147483648 ≤ q ∧ q < 2147483648) (hw : -2147483648 ≤ w ∧ w < 2147483648) (ok1 : 0 ≤ q ∧ q < S 7) (ok2 : 0 ≤ w ∧ w < S 7) : zMeti yX6_swap wsX6_swap { frames := 7, cells := 0, slots := 0, locals := 165 } G [.ref m, .int (iI (q)), .int (iI (w))] [(m, .inr (6, [.int (iI (th)), .ref s1, .ref s2, .int (iI (sm)), .ref s3, .int (iI (bI (hs = true))), .ref s4, .int (iI (len)), .ref m1, .ref m2, .ref m3, .ref m4, .int (iI (ax)), .ref l1, .ref l2, .int (iI (rm)), .long (hh)])), (s2, zI G 288 (V)), (s1, zI G 48 (S)), (m1, zI G 20 (B0)), (m2, zI G 20 (N0)), (m3, zI G 20 (G0)), (m4, zI G 20 (A))] (fun (rr : Int32) (uu : (Int → Int) × (Int → Int) × (Int → Int) × (Int → Int)) => rr = iI (enA (swS S q w) (sF (swS S q w)) (sK (swS S q w)) (swS S q w 7) (swS S q w 7))) (fun (uu : (Int → Int) × (Int → Int) × (Int → Int) × (Int → Int)) => [(m, .inr (6, [.int (iI (0)), .ref s1, .ref s2, .int (iI (pSz sm + 1)), .ref s3, .int (iI (bI (hs = true))), .ref s4, .int (iI (len)), .ref m1, .ref m2, .ref m3, .ref m4, .int (iI (ax)), .ref l1, .ref l2, .int (iI (rm)), .long (hh)])), (s2, zI G 288 (svS V sm S)), (s1, zI G 48 (swS S q w)), (m1, zI G 20 (uu.1)), (m2, zI G 20 (uu.2.1)), (m3, zI G 20 (uu.2.2.1)), (m4, zI G 20 (uu.2.2.2))]) 0 0 := by
  refine z_meti (cc := cX6_swap) (nL := 3) (rt := .int) (by decide +kernel) rfl (Nat.le_of_ble_eq_true rfl) (fun X hX ex => ?_)
  have hX : ZOk G X 3 cX6_swap RX6 wsX6_swap { frames := 7, cells := 0, slots := 0, locals := 165 } := hX
  show Z G X 3 (0) (0) [(m, .inr (6, [.int (iI (th)), .ref s1, .ref s2, .int (iI (sm)), .ref s3, .int (iI (bI (hs = true))), .ref s4, .int (iI (len)), .ref m1, .ref m2, .ref m3, .ref m4, .int (iI (ax)), .ref l1, .ref l2, .int (iI (rm)), .long (hh)])), (s2, zI G 288 (V)), (s1, zI G 48 (S)), (m1, zI G 20 (B0)), (m2, zI G 20 (N0)), (m3, zI G 20 (G0)), (m4, zI G 20 (A))] 0 [(0, .ref m), (1, .int (iI (q))), (2, .int (iI (w)))] []
  refine z_aload_n (pc := 0) hX 0 rfl rfl dX6_swap_0 ?_
  refine z_iconst (pc := 1) hX dX6_swap_1 ?_
  refine z_put (pc := 2) hX (T := TX6) (C := RX6) (N := 17) (i := 40) (ref := "SignLettersModel") (name := "thrown") (desc := "I") (WS' := [(m, .inr (6, [.int (iI (0)), .ref s1, .ref s2, .int (iI (sm)), .ref s3, .int (iI (bI (hs = true))), .ref s4, .int (iI (len)), .ref m1, .ref m2, .ref m3, .ref m4, .int (iI (ax)), .ref l1, .ref l2, .int (iI (rm)), .long (hh)])), (s2, zI G 288 (V)), (s1, zI G 48 (S)), (m1, zI G 20 (B0)), (m2, zI G 20 (N0)), (m3, zI G 20 (G0)), (m4, zI G 20 (A))]) tyX6 tyX6_ok nmX6 hX6_swap_X6 0 rfl rfl 0 (by decide) kX6_swap_f40 ⟨rfl, rfl, rfl⟩ rfl (ty := .int) (by decide +kernel) rfl rfl (Nat.le_of_ble_eq_true rfl) rfl dX6_swap_2 ?_
  refine z_aload_n (pc := 5) hX 0 rfl rfl dX6_swap_5 ?_
  refine z_iload_n (pc := 6) hX 1 rfl rfl dX6_swap_6 ?_
  refine z_callV_i (pc := 7) (As := [.int (iI (q))]) (rest := []) (wc := [(m, .inr (6, [.int (iI (0)), .ref s1, .ref s2, .int (iI (sm)), .ref s3, .int (iI (bI (hs = true))), .ref s4, .int (iI (len)), .ref m1, .ref m2, .ref m3, .ref m4, .int (iI (ax)), .ref l1, .ref l2, .int (iI (rm)), .long (hh)])), (s1, zI G 48 (S))]) (wr := [(s2, zI G 288 (V)), (m1, zI G 20 (B0)), (m2, zI G 20 (N0)), (m3, zI G 20 (G0)), (m4, zI G 20 (A))]) hX (mX6_isItem G (m) (s1) (s2) (s3) (s4) (m1) (m2) (m3) (m4) (l1) (l2) (0) (sm) (len) (ax) (rm) (hs) (hh) (S) (q) (by first | assumption | omega | (clear ex hX; grind [uZ])) (by first | assumption | omega | (clear ex hX; grind [uZ]))) rfl rfl rfl (C := RX6) gX6_swap_X6_isItem ⟨rfl, hdX6_isItem⟩ (T := TX6) (N := 17) 0 rfl rfl ⟨Nat.le_of_ble_eq_true rfl, Nat.le_of_ble_eq_true rfl⟩ [0, 2] [1, 3, 4, 5, 6] rfl rfl (by decide) (by decide) (by decide) rfl (Nat.le_of_ble_eq_true rfl) ⟨Nat.le_of_ble_eq_true rfl, Nat.le_of_ble_eq_true rfl⟩ dX6_swap_7 (fun r_1 u_1 h_1 => ?_)
  subst h_1
  show Z G X 3 (0) (0) [(s2, zI G 288 (V)), (m1, zI G 20 (B0)), (m2, zI G 20 (N0)), (m3, zI G 20 (G0)), (m4, zI G 20 (A)), (m, .inr (6, [.int (iI (0)), .ref s1, .ref s2, .int (iI (sm)), .ref s3, .int (iI (bI (hs = true))), .ref s4, .int (iI (len)), .ref m1, .ref m2, .ref m3, .ref m4, .int (iI (ax)), .ref l1, .ref l2, .int (iI (rm)), .long (hh)])), (s1, zI G 48 (S))] 10 [(0, .ref m), (1, .int (iI (q))), (2, .int (iI (w)))] [.int (iI (bI (0 ≤ q ∧ q < S 7)))]
  refine z_bif_eq (pc := 10) (tgt := 21) hX (by decide) dX6_swap_10 (fun c_2 => by first | exact absurd c_2 ok1 | exact absurd ok1 c_2) (fun c_2 => ?_)
  refine z_aload_n (pc := 13) hX 0 rfl rfl dX6_swap_13 ?_
  refine z_iload_n (pc := 14) hX 2 rfl rfl dX6_swap_14 ?_
  refine z_callV_i (pc := 15) (As := [.int (iI (w))]) (rest := []) (wc := [(m, .inr (6, [.int (iI (0)), .ref s1, .ref s2, .int (iI (sm)), .ref s3, .int (iI (bI (hs = true))), .ref s4, .int (iI (len)), .ref m1, .ref m2, .ref m3, .ref m4, .int (iI (ax)), .ref l1, .ref l2, .int (iI (rm)), .long (hh)])), (s1, zI G 48 (S))]) (wr := [(s2, zI G 288 (V)), (m1, zI G 20 (B0)), (m2, zI G 20 (N0)), (m3, zI G 20 (G0)), (m4, zI G 20 (A))]) hX (mX6_isItem G (m) (s1) (s2) (s3) (s4) (m1) (m2) (m3) (m4) (l1) (l2) (0) (sm) (len) (ax) (rm) (hs) (hh) (S) (w) (by first | assumption | omega | (clear ex hX; grind [uZ])) (by first | assumption | omega | (clear ex hX; grind [uZ]))) rfl rfl rfl (C := RX6) gX6_swap_X6_isItem ⟨rfl, hdX6_isItem⟩ (T := TX6) (N := 17) 0 rfl rfl ⟨Nat.le_of_ble_eq_true rfl, Nat.le_of_ble_eq_true rfl⟩ [5, 6] [0, 1, 2, 3, 4] rfl rfl (by decide) (by decide) (by decide) rfl (Nat.le_of_ble_eq_true rfl) ⟨Nat.le_of_ble_eq_true rfl, Nat.le_of_ble_eq_true rfl⟩ dX6_swap_15 (fun r_3 u_3 h_3 => ?_)
  subst h_3
  show Z G X 3 (0) (0) [(s2, zI G 288 (V)), (m1, zI G 20 (B0)), (m2, zI G 20 (N0)), (m3, zI G 20 (G0)), (m4, zI G 20 (A)), (m, .inr (6, [.int (iI (0)), .ref s1, .ref s2, .int (iI (sm)), .ref s3, .int (iI (bI (hs = true))), .ref s4, .int (iI (len)), .ref m1, .ref m2, .ref m3, .ref m4, .int (iI (ax)), .ref l1, .ref l2, .int (iI (rm)), .long (hh)])), (s1, zI G 48 (S))] 18 [(0, .ref m), (1, .int (iI (q))), (2, .int (iI (w)))] [.int (iI (bI (0 ≤ w ∧ w < S 7)))]
  refine z_bif_ne (pc := 18) (tgt := 27) hX (by decide) dX6_swap_18 (fun c_4 => ?_) (fun c_4 => by first | exact absurd c_4 ok2 | exact absurd ok2 c_4)
  refine z_aload_n (pc := 27) hX 0 rfl rfl dX6_swap_27 ?_
  refine z_callV_v (pc := 28) (As := []) (rest := []) (wc := [(m, .inr (6, [.int (iI (0)), .ref s1, .ref s2, .int (iI (sm)), .ref s3, .int (iI (bI (hs = true))), .ref s4, .int (iI (len)), .ref m1, .ref m2, .ref m3, .ref m4, .int (iI (ax)), .ref l1, .ref l2, .int (iI (rm)), .long (hh)])), (s2, zI G 288 (V)), (s1, zI G 48 (S))]) (wr := [(m1, zI G 20 (B0)), (m2, zI G 20 (N0)), (m3, zI G 20 (G0)), (m4, zI G 20 (A))]) hX (mX6_saves G (m) (s1) (s2) (s3) (s4) (m1) (m2) (m3) (m4) (l1) (l2) (0) (sm) (len) (ax) (rm) (hs) (hh) (S) (V) (by first | assumption | omega | (clear ex hX; grind [uZ]))) rfl rfl rfl (C := RX6) gX6_swap_X6_saves ⟨rfl, hdX6_saves⟩ (T := TX6) (N := 17) 0 rfl rfl ⟨Nat.le_of_ble_eq_true rfl, Nat.le_of_ble_eq_true rfl⟩ [5, 0, 6] [1, 2, 3, 4] rfl rfl (by decide) (by decide) (by decide) rfl (Nat.le_of_ble_eq_true rfl) ⟨Nat.le_of_ble_eq_true rfl, Nat.le_of_ble_eq_true rfl⟩ dX6_swap_28 (fun u_5 h_5 => ?_)
  show Z G X 3 (0) (0) [(m1, zI G 20 (B0)), (m2, zI G 20 (N0)), (m3, zI G 20 (G0)), (m4, zI G 20 (A)), (m, .inr (6, [.int (iI (0)), .ref s1, .ref s2, .int (iI (pSz sm + 1)), .ref s3, .int (iI (bI (hs = true))), .ref s4, .int (iI (len)), .ref m1, .ref m2, .ref m3, .ref m4, .int (iI (ax)), .ref l1, .ref l2, .int (iI (rm)), .long (hh)])), (s2, zI G 288 (svS V sm S)), (s1, zI G 48 (S))] 31 [(0, .ref m), (1, .int (iI (q))), (2, .int (iI (w)))] []
  refine z_aload_n (pc := 31) hX 0 rfl rfl dX6_swap_31 ?_
  refine z_bipush (pc := 32) hX (z := 8) (by decide +kernel) dX6_swap_32 ?_
  refine z_iload_n (pc := 34) hX 1 rfl rfl dX6_swap_34 ?_
  refine z_iadd (pc := 35) hX dX6_swap_35 ?_
  refine z_bipush (pc := 36) hX (z := 8) (by decide +kernel) dX6_swap_36 ?_
  refine z_iload_n (pc := 38) hX 2 rfl rfl dX6_swap_38 ?_
  refine z_iadd (pc := 39) hX dX6_swap_39 ?_
  refine z_callV_v (pc := 40) (As := [.int (iI (8 + q)), .int (iI (8 + w))]) (rest := []) (wc := [(m, .inr (6, [.int (iI (0)), .ref s1, .ref s2, .int (iI ((pSz sm + 1))), .ref s3, .int (iI (bI (hs = true))), .ref s4, .int (iI (len)), .ref m1, .ref m2, .ref m3, .ref m4, .int (iI (ax)), .ref l1, .ref l2, .int (iI (rm)), .long (hh)])), (s1, zI G 48 (S))]) (wr := [(m1, zI G 20 (B0)), (m2, zI G 20 (N0)), (m3, zI G 20 (G0)), (m4, zI G 20 (A)), (s2, zI G 288 (svS V sm S))]) hX (mX6_exchanges G (m) (s1) (s2) (s3) (s4) (m1) (m2) (m3) (m4) (l1) (l2) (0) (pSz sm + 1) (len) (ax) (rm) (hs) (hh) (S) (8 + q) (8 + w) (by first | assumption | omega | (clear ex hX; grind [uZ])) (by first | assumption | omega | (clear ex hX; grind [uZ]))) rfl rfl rfl (C := RX6) gX6_swap_X6_exchanges ⟨rfl, hdX6_exchanges⟩ (T := TX6) (N := 17) 0 rfl rfl ⟨Nat.le_of_ble_eq_true rfl, Nat.le_of_ble_eq_true rfl⟩ [4, 6] [0, 1, 2, 3, 5] rfl rfl (by decide) (by decide) (by decide) rfl (Nat.le_of_ble_eq_true rfl) ⟨Nat.le_of_ble_eq_true rfl, Nat.le_of_ble_eq_true rfl⟩ dX6_swap_40 (fun u_6 h_6 => ?_)
  show Z G X 3 (0) (0) [(m1, zI G 20 (B0)), (m2, zI G 20 (N0)), (m3, zI G 20 (G0)), (m4, zI G 20 (A)), (s2, zI G 288 (svS V sm S)), (m, .inr (6, [.int (iI (0)), .ref s1, .ref s2, .int (iI ((pSz sm + 1))), .ref s3, .int (iI (bI (hs = true))), .ref s4, .int (iI (len)), .ref m1, .ref m2, .ref m3, .ref m4, .int (iI (ax)), .ref l1, .ref l2, .int (iI (rm)), .long (hh)])), (s1, zI G 48 (exZ S (8 + q) (8 + w)))] 43 [(0, .ref m), (1, .int (iI (q))), (2, .int (iI (w)))] []
  refine z_aload_n (pc := 43) hX 0 rfl rfl dX6_swap_43 ?_
  refine z_bipush (pc := 44) hX (z := 28) (by decide +kernel) dX6_swap_44 ?_
  refine z_iload_n (pc := 46) hX 1 rfl rfl dX6_swap_46 ?_
  refine z_iadd (pc := 47) hX dX6_swap_47 ?_
  refine z_bipush (pc := 48) hX (z := 28) (by decide +kernel) dX6_swap_48 ?_
  refine z_iload_n (pc := 50) hX 2 rfl rfl dX6_swap_50 ?_
  refine z_iadd (pc := 51) hX dX6_swap_51 ?_
  refine z_callV_v (pc := 52) (As := [.int (iI (28 + q)), .int (iI (28 + w))]) (rest := []) (wc := [(m, .inr (6, [.int (iI (0)), .ref s1, .ref s2, .int (iI ((pSz sm + 1))), .ref s3, .int (iI (bI (hs = true))), .ref s4, .int (iI (len)), .ref m1, .ref m2, .ref m3, .ref m4, .int (iI (ax)), .ref l1, .ref l2, .int (iI (rm)), .long (hh)])), (s1, zI G 48 ((exZ S (8 + q) (8 + w))))]) (wr := [(m1, zI G 20 (B0)), (m2, zI G 20 (N0)), (m3, zI G 20 (G0)), (m4, zI G 20 (A)), (s2, zI G 288 (svS V sm S))]) hX (mX6_exchanges G (m) (s1) (s2) (s3) (s4) (m1) (m2) (m3) (m4) (l1) (l2) (0) (pSz sm + 1) (len) (ax) (rm) (hs) (hh) (exZ S (8 + q) (8 + w)) (28 + q) (28 + w) (by first | assumption | omega | (clear ex hX; grind [uZ])) (by first | assumption | omega | (clear ex hX; grind [uZ]))) rfl rfl rfl (C := RX6) gX6_swap_X6_exchanges ⟨rfl, hdX6_exchanges⟩ (T := TX6) (N := 17) 0 rfl rfl ⟨Nat.le_of_ble_eq_true rfl, Nat.le_of_ble_eq_true rfl⟩ [5, 6] [0, 1, 2, 3, 4] rfl rfl (by decide) (by decide) (by decide) rfl (Nat.le_of_ble_eq_true rfl) ⟨Nat.le_of_ble_eq_true rfl, Nat.le_of_ble_eq_true rfl⟩ dX6_swap_52 (fun u_7 h_7 => ?_)
  show Z G X 3 (0) (0) [(m1, zI G 20 (B0)), (m2, zI G 20 (N0)), (m3, zI G 20 (G0)), (m4, zI G 20 (A)), (s2, zI G 288 (svS V sm S)), (m, .inr (6, [.int (iI (0)), .ref s1, .ref s2, .int (iI ((pSz sm + 1))), .ref s3, .int (iI (bI (hs = true))), .ref s4, .int (iI (len)), .ref m1, .ref m2, .ref m3, .ref m4, .int (iI (ax)), .ref l1, .ref l2, .int (iI (rm)), .long (hh)])), (s1, zI G 48 (exZ (exZ S (8 + q) (8 + w)) (28 + q) (28 + w)))] 55 [(0, .ref m), (1, .int (iI (q))), (2, .int (iI (w)))] []
  refine z_arrX (N := 48) (F := exZ (exZ S (8 + q) (8 + w)) (28 + q) (28 + w)) (F1 := swS S q w) (WS1 := [(m1, zI G 20 (B0)), (m2, zI G 20 (N0)), (m3, zI G 20 (G0)), (m4, zI G 20 (A)), (s2, zI G 288 (svS V sm S)), (m, .inr (6, [.int (iI (0)), .ref s1, .ref s2, .int (iI ((pSz sm + 1))), .ref s3, .int (iI (bI (hs = true))), .ref s4, .int (iI (len)), .ref m1, .ref m2, .ref m3, .ref m4, .int (iI (ax)), .ref l1, .ref l2, .int (iI (rm)), .long (hh)])), (s1, zI G 48 (swS S q w))]) 6 rfl (fun j hj0 hj1 => by rfl) rfl ?_
  obtain ⟨o1, o2, o3, o4⟩ := swS_ok ⟨hE, hn, hF, hK⟩ ok1 ok2
  show Z G X 3 (0) (0) [(m1, zI G 20 (B0)), (m2, zI G 20 (N0)), (m3, zI G 20 (G0)), (m4, zI G 20 (A)), (s2, zI G 288 (svS V sm S)), (m, .inr (6, [.int (iI (0)), .ref s1, .ref s2, .int (iI ((pSz sm + 1))), .ref s3, .int (iI (bI (hs = true))), .ref s4, .int (iI (len)), .ref m1, .ref m2, .ref m3, .ref m4, .int (iI (ax)), .ref l1, .ref l2, .int (iI (rm)), .long (hh)])), (s1, zI G 48 (swS S q w))] 55 [(0, .ref m), (1, .int (iI (q))), (2, .int (iI (w)))] []
  refine z_aload_n (pc := 55) hX 0 rfl rfl dX6_swap_55 ?_
  refine z_callV_i (pc := 56) (As := []) (rest := []) (wc := [(m, .inr (6, [.int (iI (0)), .ref s1, .ref s2, .int (iI ((pSz sm + 1))), .ref s3, .int (iI (bI (hs = true))), .ref s4, .int (iI (len)), .ref m1, .ref m2, .ref m3, .ref m4, .int (iI (ax)), .ref l1, .ref l2, .int (iI (rm)), .long (hh)])), (s1, zI G 48 ((swS S q w))), (m1, zI G 20 (B0)), (m2, zI G 20 (N0)), (m3, zI G 20 (G0)), (m4, zI G 20 (A))]) (wr := [(s2, zI G 288 (svS V sm S))]) hX (mX6_width G (m) (s1) (s2) (s3) (s4) (m1) (m2) (m3) (m4) (l1) (l2) (0) (pSz sm + 1) (len) (ax) (rm) (hs) (hh) (swS S q w) (B0) (N0) (G0) (A) (by first | assumption | omega | (clear ex hX; grind [uZ])) (by first | assumption | omega | (clear ex hX; grind [uZ])) (by first | assumption | omega | (clear ex hX; grind [uZ])) (by first | assumption | omega | (clear ex hX; grind [uZ]))) rfl rfl rfl (C := RX6) gX6_swap_X6_width ⟨rfl, hdX6_width⟩ (T := TX6) (N := 17) 0 rfl rfl ⟨Nat.le_of_ble_eq_true rfl, Nat.le_of_ble_eq_true rfl⟩ [5, 6, 0, 1, 2, 3] [4] rfl rfl (by decide) (by decide) (by decide) rfl (Nat.le_of_ble_eq_true rfl) ⟨Nat.le_of_ble_eq_true rfl, Nat.le_of_ble_eq_true rfl⟩ dX6_swap_56 (fun r_8 u_8 h_8 => ?_)
  obtain ⟨B1_8, N1_8, G1_8, A1_8⟩ := u_8
  try dsimp only at h_8
  obtain ⟨h_8, hly_8⟩ := h_8
  subst h_8
  show Z G X 3 (0) (0) [(s2, zI G 288 (svS V sm S)), (m, .inr (6, [.int (iI (0)), .ref s1, .ref s2, .int (iI ((pSz sm + 1))), .ref s3, .int (iI (bI (hs = true))), .ref s4, .int (iI (len)), .ref m1, .ref m2, .ref m3, .ref m4, .int (iI (ax)), .ref l1, .ref l2, .int (iI (rm)), .long (hh)])), (s1, zI G 48 ((swS S q w))), (m1, zI G 20 (B1_8)), (m2, zI G 20 (N1_8)), (m3, zI G 20 (G1_8)), (m4, zI G 20 (A1_8))] 59 [(0, .ref m), (1, .int (iI (q))), (2, .int (iI (w)))] [.int (iI (enA (swS S q w) (sF (swS S q w)) (sK (swS S q w)) ((swS S q w) 7) ((swS S q w) 7)))]
  refine z_at [0, 1, 2] [1, 0, 2, 3, 4, 5, 6] (loc' := [(0, .ref m), (1, .int (iI (q))), (2, .int (iI (w)))]) (WS' := [(m, .inr (6, [.int (iI (0)), .ref s1, .ref s2, .int (iI ((pSz sm + 1))), .ref s3, .int (iI (bI (hs = true))), .ref s4, .int (iI (len)), .ref m1, .ref m2, .ref m3, .ref m4, .int (iI (ax)), .ref l1, .ref l2, .int (iI (rm)), .long (hh)])), (s2, zI G 288 (svS V sm S)), (s1, zI G 48 ((swS S q w))), (m1, zI G 20 (B1_8)), (m2, zI G 20 (N1_8)), (m3, zI G 20 (G1_8)), (m4, zI G 20 (A1_8))]) rfl (by decide) rfl ?_
  exact ex _ _ _ ((B1_8), (N1_8), (G1_8), (A1_8)) _ dX6_swap_59 rfl (congrArg iI (show (enA (swS S q w) (sF (swS S q w)) (sK (swS S q w)) ((swS S q w) 7) ((swS S q w) 7) : Int) = enA (swS S q w) (sF (swS S q w)) (sK (swS S q w)) (swS S q w 7) (swS S q w 7) from by first | rfl | omega | (clear ex hX; grind [uZ]))) rfl
set_option maxHeartbeats 400000 in
set_option maxRecDepth 100000 in
theorem mX6_swap_no (G : ZG) (m : Nat) (s1 : Nat) (s2 : Nat) (s3 : Nat) (s4 : Nat) (m1 : Nat) (m2 : Nat) (m3 : Nat) (m4 : Nat) (l1 : Nat) (l2 : Nat) (th : Int) (sm : Int) (len : Int) (ax : Int) (rm : Int) (hs : Bool) (hh : Int64) (S : Int → Int) (q : Int) (w : Int) (hn : 0 ≤ S 7 ∧ S 7 ≤ 20) (hq : -2147483648 ≤ q ∧ q < 2147483648) (hw : -2147483648 ≤ w ∧ w < 2147483648) (hbad : ¬ (((0 ≤ q ∧ q < S 7) ∧ (0 ≤ w ∧ w < S 7)))) : zMeti yX6_swap wsX6_swap { frames := 2, cells := 0, slots := 0, locals := 43 } G [.ref m, .int (iI (q)), .int (iI (w))] [(m, .inr (6, [.int (iI (th)), .ref s1, .ref s2, .int (iI (sm)), .ref s3, .int (iI (bI (hs = true))), .ref s4, .int (iI (len)), .ref m1, .ref m2, .ref m3, .ref m4, .int (iI (ax)), .ref l1, .ref l2, .int (iI (rm)), .long (hh)])), (s1, zI G 48 (S))] (fun (rr : Int32) (uu : Unit) => rr = iI (0)) (fun (uu : Unit) => [(m, .inr (6, [.int (iI (if (0 ≤ q ∧ q < S 7) ∧ (0 ≤ w ∧ w < S 7) then (0) else 1)), .ref s1, .ref s2, .int (iI (sm)), .ref s3, .int (iI (bI (hs = true))), .ref s4, .int (iI (len)), .ref m1, .ref m2, .ref m3, .ref m4, .int (iI (ax)), .ref l1, .ref l2, .int (iI (rm)), .long (hh)])), (s1, zI G 48 (S))]) 0 0 := by
  refine z_meti (cc := cX6_swap) (nL := 3) (rt := .int) (by decide +kernel) rfl (Nat.le_of_ble_eq_true rfl) (fun X hX ex => ?_)
  have hX : ZOk G X 3 cX6_swap RX6 wsX6_swap { frames := 2, cells := 0, slots := 0, locals := 43 } := hX
  show Z G X 3 (0) (0) [(m, .inr (6, [.int (iI (th)), .ref s1, .ref s2, .int (iI (sm)), .ref s3, .int (iI (bI (hs = true))), .ref s4, .int (iI (len)), .ref m1, .ref m2, .ref m3, .ref m4, .int (iI (ax)), .ref l1, .ref l2, .int (iI (rm)), .long (hh)])), (s1, zI G 48 (S))] 0 [(0, .ref m), (1, .int (iI (q))), (2, .int (iI (w)))] []
  refine z_aload_n (pc := 0) hX 0 rfl rfl dX6_swap_0 ?_
  refine z_iconst (pc := 1) hX dX6_swap_1 ?_
  refine z_put (pc := 2) hX (T := TX6) (C := RX6) (N := 17) (i := 40) (ref := "SignLettersModel") (name := "thrown") (desc := "I") (WS' := [(m, .inr (6, [.int (iI (0)), .ref s1, .ref s2, .int (iI (sm)), .ref s3, .int (iI (bI (hs = true))), .ref s4, .int (iI (len)), .ref m1, .ref m2, .ref m3, .ref m4, .int (iI (ax)), .ref l1, .ref l2, .int (iI (rm)), .long (hh)])), (s1, zI G 48 (S))]) tyX6 tyX6_ok nmX6 hX6_swap_X6 0 rfl rfl 0 (by decide) kX6_swap_f40 ⟨rfl, rfl, rfl⟩ rfl (ty := .int) (by decide +kernel) rfl rfl (Nat.le_of_ble_eq_true rfl) rfl dX6_swap_2 ?_
  refine z_aload_n (pc := 5) hX 0 rfl rfl dX6_swap_5 ?_
  refine z_iload_n (pc := 6) hX 1 rfl rfl dX6_swap_6 ?_
  refine z_callV_i (pc := 7) (As := [.int (iI (q))]) (rest := []) (wc := [(m, .inr (6, [.int (iI (0)), .ref s1, .ref s2, .int (iI (sm)), .ref s3, .int (iI (bI (hs = true))), .ref s4, .int (iI (len)), .ref m1, .ref m2, .ref m3, .ref m4, .int (iI (ax)), .ref l1, .ref l2, .int (iI (rm)), .long (hh)])), (s1, zI G 48 (S))]) (wr := []) hX (mX6_isItem G (m) (s1) (s2) (s3) (s4) (m1) (m2) (m3) (m4) (l1) (l2) (0) (sm) (len) (ax) (rm) (hs) (hh) (S) (q) (by first | assumption | omega | (clear ex hX; grind [uZ])) (by first | assumption | omega | (clear ex hX; grind [uZ]))) rfl rfl rfl (C := RX6) gX6_swap_X6_isItem ⟨rfl, hdX6_isItem⟩ (T := TX6) (N := 17) 0 rfl rfl ⟨Nat.le_of_ble_eq_true rfl, Nat.le_of_ble_eq_true rfl⟩ [0, 1] [] rfl rfl (by decide) (by decide) (by decide) rfl (Nat.le_of_ble_eq_true rfl) ⟨Nat.le_of_ble_eq_true rfl, Nat.le_of_ble_eq_true rfl⟩ dX6_swap_7 (fun r_1 u_1 h_1 => ?_)
  subst h_1
  show Z G X 3 (0) (0) [(m, .inr (6, [.int (iI (0)), .ref s1, .ref s2, .int (iI (sm)), .ref s3, .int (iI (bI (hs = true))), .ref s4, .int (iI (len)), .ref m1, .ref m2, .ref m3, .ref m4, .int (iI (ax)), .ref l1, .ref l2, .int (iI (rm)), .long (hh)])), (s1, zI G 48 (S))] 10 [(0, .ref m), (1, .int (iI (q))), (2, .int (iI (w)))] [.int (iI (bI (0 ≤ q ∧ q < S 7)))]
  refine z_bif_eq (pc := 10) (tgt := 21) hX (by decide) dX6_swap_10 (fun c_2 => ?_) (fun c_2 => ?_)
  · refine z_aload_n (pc := 21) hX 0 rfl rfl dX6_swap_21 ?_
    refine z_iconst (pc := 22) hX dX6_swap_22 ?_
    refine z_callV_i (pc := 23) (As := [.int (iI (1))]) (rest := []) (wc := [(m, .inr (6, [.int (iI (0)), .ref s1, .ref s2, .int (iI (sm)), .ref s3, .int (iI (bI (hs = true))), .ref s4, .int (iI (len)), .ref m1, .ref m2, .ref m3, .ref m4, .int (iI (ax)), .ref l1, .ref l2, .int (iI (rm)), .long (hh)]))]) (wr := [(s1, zI G 48 (S))]) hX (mX6_fails G (m) (s1) (s2) (s3) (s4) (m1) (m2) (m3) (m4) (l1) (l2) (0) (sm) (len) (ax) (rm) (hs) (hh) (S) (1) ) rfl rfl rfl (C := RX6) gX6_swap_X6_fails ⟨rfl, hdX6_fails⟩ (T := TX6) (N := 17) 0 rfl rfl ⟨Nat.le_of_ble_eq_true rfl, Nat.le_of_ble_eq_true rfl⟩ [0] [1] rfl rfl (by decide) (by decide) (by decide) rfl (Nat.le_of_ble_eq_true rfl) ⟨Nat.le_of_ble_eq_true rfl, Nat.le_of_ble_eq_true rfl⟩ dX6_swap_23 (fun r_3 u_3 h_3 => ?_)
    subst h_3
    show Z G X 3 (0) (0) [(s1, zI G 48 (S)), (m, .inr (6, [.int (iI (1)), .ref s1, .ref s2, .int (iI (sm)), .ref s3, .int (iI (bI (hs = true))), .ref s4, .int (iI (len)), .ref m1, .ref m2, .ref m3, .ref m4, .int (iI (ax)), .ref l1, .ref l2, .int (iI (rm)), .long (hh)]))] 26 [(0, .ref m), (1, .int (iI (q))), (2, .int (iI (w)))] [.int (iI (0))]
    refine z_at [0, 1, 2] [1, 0] (loc' := [(0, .ref m), (1, .int (iI (q))), (2, .int (iI (w)))]) (WS' := [(m, .inr (6, [.int (iI (1)), .ref s1, .ref s2, .int (iI (sm)), .ref s3, .int (iI (bI (hs = true))), .ref s4, .int (iI (len)), .ref m1, .ref m2, .ref m3, .ref m4, .int (iI (ax)), .ref l1, .ref l2, .int (iI (rm)), .long (hh)])), (s1, zI G 48 (S))]) rfl (by decide) rfl ?_
    refine (congrArg (fun z_ : Int => Z G X 3 (0) (0) [(m, .inr (6, [.int (iI (z_)), .ref s1, .ref s2, .int (iI (sm)), .ref s3, .int (iI (bI (hs = true))), .ref s4, .int (iI (len)), .ref m1, .ref m2, .ref m3, .ref m4, .int (iI (ax)), .ref l1, .ref l2, .int (iI (rm)), .long (hh)])), (s1, zI G 48 (S))] 26 [(0, .ref m), (1, .int (iI (q))), (2, .int (iI (w)))] [.int (iI (0))]) (show (1 : Int) = if (0 ≤ q ∧ q < S 7) ∧ (0 ≤ w ∧ w < S 7) then (0) else 1 from by first | rfl | (rw [if_neg (by omega)]; done) | (rw [if_pos (by omega), if_neg (by omega)]; done) | (rw [if_pos (by omega), if_pos (by omega), if_neg (by omega)]; done) | (rw [if_pos (by omega), if_pos (by omega), if_pos (by omega)]; done))).mpr ?_
    exact ex _ _ _ () _ dX6_swap_26 rfl rfl rfl
  · refine z_aload_n (pc := 13) hX 0 rfl rfl dX6_swap_13 ?_
    refine z_iload_n (pc := 14) hX 2 rfl rfl dX6_swap_14 ?_
    refine z_callV_i (pc := 15) (As := [.int (iI (w))]) (rest := []) (wc := [(m, .inr (6, [.int (iI (0)), .ref s1, .ref s2, .int (iI (sm)), .ref s3, .int (iI (bI (hs = true))), .ref s4, .int (iI (len)), .ref m1, .ref m2, .ref m3, .ref m4, .int (iI (ax)), .ref l1, .ref l2, .int (iI (rm)), .long (hh)])), (s1, zI G 48 (S))]) (wr := []) hX (mX6_isItem G (m) (s1) (s2) (s3) (s4) (m1) (m2) (m3) (m4) (l1) (l2) (0) (sm) (len) (ax) (rm) (hs) (hh) (S) (w) (by first | assumption | omega | (clear ex hX; grind [uZ])) (by first | assumption | omega | (clear ex hX; grind [uZ]))) rfl rfl rfl (C := RX6) gX6_swap_X6_isItem ⟨rfl, hdX6_isItem⟩ (T := TX6) (N := 17) 0 rfl rfl ⟨Nat.le_of_ble_eq_true rfl, Nat.le_of_ble_eq_true rfl⟩ [0, 1] [] rfl rfl (by decide) (by decide) (by decide) rfl (Nat.le_of_ble_eq_true rfl) ⟨Nat.le_of_ble_eq_true rfl, Nat.le_of_ble_eq_true rfl⟩ dX6_swap_15 (fun r_4 u_4 h_4 => ?_)
    subst h_4
    show Z G X 3 (0) (0) [(m, .inr (6, [.int (iI (0)), .ref s1, .ref s2, .int (iI (sm)), .ref s3, .int (iI (bI (hs = true))), .ref s4, .int (iI (len)), .ref m1, .ref m2, .ref m3, .ref m4, .int (iI (ax)), .ref l1, .ref l2, .int (iI (rm)), .long (hh)])), (s1, zI G 48 (S))] 18 [(0, .ref m), (1, .int (iI (q))), (2, .int (iI (w)))] [.int (iI (bI (0 ≤ w ∧ w < S 7)))]
    refine z_bif_ne (pc := 18) (tgt := 27) hX (by decide) dX6_swap_18 (fun c_5 => ?_) (fun c_5 => ?_)
    · exact absurd ⟨by assumption, by assumption⟩ hbad
    · refine z_aload_n (pc := 21) hX 0 rfl rfl dX6_swap_21 ?_
      refine z_iconst (pc := 22) hX dX6_swap_22 ?_
      refine z_callV_i (pc := 23) (As := [.int (iI (1))]) (rest := []) (wc := [(m, .inr (6, [.int (iI (0)), .ref s1, .ref s2, .int (iI (sm)), .ref s3, .int (iI (bI (hs = true))), .ref s4, .int (iI (len)), .ref m1, .ref m2, .ref m3, .ref m4, .int (iI (ax)), .ref l1, .ref l2, .int (iI (rm)), .long (hh)]))]) (wr := [(s1, zI G 48 (S))]) hX (mX6_fails G (m) (s1) (s2) (s3) (s4) (m1) (m2) (m3) (m4) (l1) (l2) (0) (sm) (len) (ax) (rm) (hs) (hh) (S) (1) ) rfl rfl rfl (C := RX6) gX6_swap_X6_fails ⟨rfl, hdX6_fails⟩ (T := TX6) (N := 17) 0 rfl rfl ⟨Nat.le_of_ble_eq_true rfl, Nat.le_of_ble_eq_true rfl⟩ [0] [1] rfl rfl (by decide) (by decide) (by decide) rfl (Nat.le_of_ble_eq_true rfl) ⟨Nat.le_of_ble_eq_true rfl, Nat.le_of_ble_eq_true rfl⟩ dX6_swap_23 (fun r_6 u_6 h_6 => ?_)
      subst h_6
      show Z G X 3 (0) (0) [(s1, zI G 48 (S)), (m, .inr (6, [.int (iI (1)), .ref s1, .ref s2, .int (iI (sm)), .ref s3, .int (iI (bI (hs = true))), .ref s4, .int (iI (len)), .ref m1, .ref m2, .ref m3, .ref m4, .int (iI (ax)), .ref l1, .ref l2, .int (iI (rm)), .long (hh)]))] 26 [(0, .ref m), (1, .int (iI (q))), (2, .int (iI (w)))] [.int (iI (0))]
      refine z_at [0, 1, 2] [1, 0] (loc' := [(0, .ref m), (1, .int (iI (q))), (2, .int (iI (w)))]) (WS' := [(m, .inr (6, [.int (iI (1)), .ref s1, .ref s2, .int (iI (sm)), .ref s3, .int (iI (bI (hs = true))), .ref s4, .int (iI (len)), .ref m1, .ref m2, .ref m3, .ref m4, .int (iI (ax)), .ref l1, .ref l2, .int (iI (rm)), .long (hh)])), (s1, zI G 48 (S))]) rfl (by decide) rfl ?_
      refine (congrArg (fun z_ : Int => Z G X 3 (0) (0) [(m, .inr (6, [.int (iI (z_)), .ref s1, .ref s2, .int (iI (sm)), .ref s3, .int (iI (bI (hs = true))), .ref s4, .int (iI (len)), .ref m1, .ref m2, .ref m3, .ref m4, .int (iI (ax)), .ref l1, .ref l2, .int (iI (rm)), .long (hh)])), (s1, zI G 48 (S))] 26 [(0, .ref m), (1, .int (iI (q))), (2, .int (iI (w)))] [.int (iI (0))]) (show (1 : Int) = if (0 ≤ q ∧ q < S 7) ∧ (0 ≤ w ∧ w < S 7) then (0) else 1 from by first | rfl | (rw [if_neg (by omega)]; done) | (rw [if_pos (by omega), if_neg (by omega)]; done) | (rw [if_pos (by omega), if_pos (by omega), if_neg (by omega)]; done) | (rw [if_pos (by omega), if_pos (by omega), if_pos (by omega)]; done))).mpr ?_
      exact ex _ _ _ () _ dX6_swap_26 rfl rfl rfl
theorem hX6_kern_X6 : ∀ w ∈ wsX60, w ∈ wsX6_kern := by decide +kernel
theorem kX6_kern_f40 : Cond.fieldLink RX6 40 "SignLettersModel" "thrown" "I" ∈ wsX6_kern := by decide +kernel
theorem kX6_kern_f7 : Cond.fieldLink RX6 7 "SignLettersModel" "s" "[I" ∈ wsX6_kern := by decide +kernel
set_option maxHeartbeats 400000 in
set_option maxRecDepth 100000 in
theorem mX6_kern_ok (G : ZG) (m : Nat) (s1 : Nat) (s2 : Nat) (s3 : Nat) (s4 : Nat) (m1 : Nat) (m2 : Nat) (m3 : Nat) (m4 : Nat) (l1 : Nat) (l2 : Nat) (th : Int) (sm : Int) (len : Int) (ax : Int) (rm : Int) (hs : Bool) (hh : Int64) (S : Int → Int) (V : Int → Int) (q : Int) (v : Int) (hsm : 0 ≤ sm ∧ sm ≤ 6) (hn : 0 ≤ S 7 ∧ S 7 ≤ 20) (hF : okF (sF S) (S 7)) (hq : -2147483648 ≤ q ∧ q < 2147483648) (hv : -2147483648 ≤ v ∧ v < 2147483648) (ok1 : 0 ≤ q ∧ q < S 7) (ok2 : -5 ≤ v ∧ v ≤ 5) (ok3 : letA (sF S) (S 7) q ≠ -1) : zMeti yX6_kern wsX6_kern { frames := 3, cells := 0, slots := 0, locals := 64 } G [.ref m, .int (iI (q)), .int (iI (v))] [(m, .inr (6, [.int (iI (th)), .ref s1, .ref s2, .int (iI (sm)), .ref s3, .int (iI (bI (hs = true))), .ref s4, .int (iI (len)), .ref m1, .ref m2, .ref m3, .ref m4, .int (iI (ax)), .ref l1, .ref l2, .int (iI (rm)), .long (hh)])), (s2, zI G 288 (V)), (s1, zI G 48 (S))] (fun (rr : Int32) (uu : Unit) => rr = iI (S (28 + q) + 10)) (fun (uu : Unit) => [(m, .inr (6, [.int (iI (0)), .ref s1, .ref s2, .int (iI (pSz sm + 1)), .ref s3, .int (iI (bI (hs = true))), .ref s4, .int (iI (len)), .ref m1, .ref m2, .ref m3, .ref m4, .int (iI (ax)), .ref l1, .ref l2, .int (iI (rm)), .long (hh)])), (s2, zI G 288 (svS V sm S)), (s1, zI G 48 (uZ S (28 + q) v))]) 0 0 := by
  refine z_meti (cc := cX6_kern) (nL := 4) (rt := .int) (by decide +kernel) rfl (Nat.le_of_ble_eq_true rfl) (fun X hX ex => ?_)
  have hX : ZOk G X 4 cX6_kern RX6 wsX6_kern { frames := 3, cells := 0, slots := 0, locals := 64 } := hX
  show Z G X 4 (0) (0) [(m, .inr (6, [.int (iI (th)), .ref s1, .ref s2, .int (iI (sm)), .ref s3, .int (iI (bI (hs = true))), .ref s4, .int (iI (len)), .ref m1, .ref m2, .ref m3, .ref m4, .int (iI (ax)), .ref l1, .ref l2, .int (iI (rm)), .long (hh)])), (s2, zI G 288 (V)), (s1, zI G 48 (S))] 0 [(0, .ref m), (1, .int (iI (q))), (2, .int (iI (v)))] []
  have ok2b : (-5) ≤ v ∧ v ≤ 5 := ok2
  refine z_aload_n (pc := 0) hX 0 rfl rfl dX6_kern_0 ?_
  refine z_iconst (pc := 1) hX dX6_kern_1 ?_
  refine z_put (pc := 2) hX (T := TX6) (C := RX6) (N := 17) (i := 40) (ref := "SignLettersModel") (name := "thrown") (desc := "I") (WS' := [(m, .inr (6, [.int (iI (0)), .ref s1, .ref s2, .int (iI (sm)), .ref s3, .int (iI (bI (hs = true))), .ref s4, .int (iI (len)), .ref m1, .ref m2, .ref m3, .ref m4, .int (iI (ax)), .ref l1, .ref l2, .int (iI (rm)), .long (hh)])), (s2, zI G 288 (V)), (s1, zI G 48 (S))]) tyX6 tyX6_ok nmX6 hX6_kern_X6 0 rfl rfl 0 (by decide) kX6_kern_f40 ⟨rfl, rfl, rfl⟩ rfl (ty := .int) (by decide +kernel) rfl rfl (Nat.le_of_ble_eq_true rfl) rfl dX6_kern_2 ?_
  refine z_aload_n (pc := 5) hX 0 rfl rfl dX6_kern_5 ?_
  refine z_iload_n (pc := 6) hX 1 rfl rfl dX6_kern_6 ?_
  refine z_callV_i (pc := 7) (As := [.int (iI (q))]) (rest := []) (wc := [(m, .inr (6, [.int (iI (0)), .ref s1, .ref s2, .int (iI (sm)), .ref s3, .int (iI (bI (hs = true))), .ref s4, .int (iI (len)), .ref m1, .ref m2, .ref m3, .ref m4, .int (iI (ax)), .ref l1, .ref l2, .int (iI (rm)), .long (hh)])), (s1, zI G 48 (S))]) (wr := [(s2, zI G 288 (V))]) hX (mX6_isItem G (m) (s1) (s2) (s3) (s4) (m1) (m2) (m3) (m4) (l1) (l2) (0) (sm) (len) (ax) (rm) (hs) (hh) (S) (q) (by first | assumption | omega | (clear ex hX; grind [uZ])) (by first | assumption | omega | (clear ex hX; grind [uZ]))) rfl rfl rfl (C := RX6) gX6_kern_X6_isItem ⟨rfl, hdX6_isItem⟩ (T := TX6) (N := 17) 0 rfl rfl ⟨Nat.le_of_ble_eq_true rfl, Nat.le_of_ble_eq_true rfl⟩ [0, 2] [1] rfl rfl (by decide) (by decide) (by decide) rfl (Nat.le_of_ble_eq_true rfl) ⟨Nat.le_of_ble_eq_true rfl, Nat.le_of_ble_eq_true rfl⟩ dX6_kern_7 (fun r_1 u_1 h_1 => ?_)
  subst h_1
  show Z G X 4 (0) (0) [(s2, zI G 288 (V)), (m, .inr (6, [.int (iI (0)), .ref s1, .ref s2, .int (iI (sm)), .ref s3, .int (iI (bI (hs = true))), .ref s4, .int (iI (len)), .ref m1, .ref m2, .ref m3, .ref m4, .int (iI (ax)), .ref l1, .ref l2, .int (iI (rm)), .long (hh)])), (s1, zI G 48 (S))] 10 [(0, .ref m), (1, .int (iI (q))), (2, .int (iI (v)))] [.int (iI (bI (0 ≤ q ∧ q < S 7)))]
  refine z_bif_ne (pc := 10) (tgt := 19) hX (by decide) dX6_kern_10 (fun c_2 => ?_) (fun c_2 => by first | exact absurd c_2 ok1 | exact absurd ok1 c_2)
  refine z_iload_n (pc := 19) hX 2 rfl rfl dX6_kern_19 ?_
  refine z_bipush (pc := 20) hX (z := -5) (by decide +kernel) dX6_kern_20 ?_
  refine z_iconst (pc := 22) hX dX6_kern_22 ?_
  refine z_callS_i (pc := 23) (As := [.int (iI (v)), .int (iI ((-5))), .int (iI (5))]) (rest := []) (wc := []) (wr := [(s2, zI G 288 (V)), (m, .inr (6, [.int (iI (0)), .ref s1, .ref s2, .int (iI (sm)), .ref s3, .int (iI (bI (hs = true))), .ref s4, .int (iI (len)), .ref m1, .ref m2, .ref m3, .ref m4, .int (iI (ax)), .ref l1, .ref l2, .int (iI (rm)), .long (hh)])), (s1, zI G 48 (S))]) hX (mX6_in G (v) (-5) (5) (by first | assumption | omega | (clear ex hX; grind [uZ])) (by first | assumption | omega | (clear ex hX; grind [uZ])) (by first | assumption | omega | (clear ex hX; grind [uZ]))) rfl rfl rfl gX6_kern_X6_in hdX6_in ⟨Nat.le_of_ble_eq_true rfl, Nat.le_of_ble_eq_true rfl⟩ [] [0, 1, 2] rfl rfl (by decide) (by decide) (by decide) rfl (Nat.le_of_ble_eq_true rfl) ⟨Nat.le_of_ble_eq_true rfl, Nat.le_of_ble_eq_true rfl⟩ dX6_kern_23 (fun r_3 u_3 h_3 => ?_)
  subst h_3
  show Z G X 4 (0) (0) [(s2, zI G 288 (V)), (m, .inr (6, [.int (iI (0)), .ref s1, .ref s2, .int (iI (sm)), .ref s3, .int (iI (bI (hs = true))), .ref s4, .int (iI (len)), .ref m1, .ref m2, .ref m3, .ref m4, .int (iI (ax)), .ref l1, .ref l2, .int (iI (rm)), .long (hh)])), (s1, zI G 48 (S))] 26 [(0, .ref m), (1, .int (iI (q))), (2, .int (iI (v)))] [.int (iI (bI ((-5) ≤ v ∧ v ≤ 5)))]
  refine z_bif_ne (pc := 26) (tgt := 35) hX (by decide) dX6_kern_26 (fun c_4 => ?_) (fun c_4 => by first | exact absurd c_4 ok2b | exact absurd ok2b c_4)
  refine z_aload_n (pc := 35) hX 0 rfl rfl dX6_kern_35 ?_
  refine z_iload_n (pc := 36) hX 1 rfl rfl dX6_kern_36 ?_
  refine z_callV_i (pc := 37) (As := [.int (iI (q))]) (rest := []) (wc := [(m, .inr (6, [.int (iI (0)), .ref s1, .ref s2, .int (iI (sm)), .ref s3, .int (iI (bI (hs = true))), .ref s4, .int (iI (len)), .ref m1, .ref m2, .ref m3, .ref m4, .int (iI (ax)), .ref l1, .ref l2, .int (iI (rm)), .long (hh)])), (s1, zI G 48 (S))]) (wr := [(s2, zI G 288 (V))]) hX (mX6_isLetter G (m) (s1) (s2) (s3) (s4) (m1) (m2) (m3) (m4) (l1) (l2) (0) (sm) (len) (ax) (rm) (hs) (hh) (S) (q) (by first | assumption | omega | (clear ex hX; grind [uZ])) (by first | assumption | omega | (clear ex hX; grind [uZ])) (by first | assumption | omega | (clear ex hX; grind [uZ]))) rfl rfl rfl (C := RX6) gX6_kern_X6_isLetter ⟨rfl, hdX6_isLetter⟩ (T := TX6) (N := 17) 0 rfl rfl ⟨Nat.le_of_ble_eq_true rfl, Nat.le_of_ble_eq_true rfl⟩ [1, 2] [0] rfl rfl (by decide) (by decide) (by decide) rfl (Nat.le_of_ble_eq_true rfl) ⟨Nat.le_of_ble_eq_true rfl, Nat.le_of_ble_eq_true rfl⟩ dX6_kern_37 (fun r_5 u_5 h_5 => ?_)
  subst h_5
  show Z G X 4 (0) (0) [(s2, zI G 288 (V)), (m, .inr (6, [.int (iI (0)), .ref s1, .ref s2, .int (iI (sm)), .ref s3, .int (iI (bI (hs = true))), .ref s4, .int (iI (len)), .ref m1, .ref m2, .ref m3, .ref m4, .int (iI (ax)), .ref l1, .ref l2, .int (iI (rm)), .long (hh)])), (s1, zI G 48 (S))] 40 [(0, .ref m), (1, .int (iI (q))), (2, .int (iI (v)))] [.int (iI (bI (letA (sF S) (S 7) q ≠ -1)))]
  refine z_bif_ne (pc := 40) (tgt := 49) hX (by decide) dX6_kern_40 (fun c_6 => ?_) (fun c_6 => by first | exact absurd c_6 ok3 | exact absurd ok3 c_6)
  refine z_aload_n (pc := 49) hX 0 rfl rfl dX6_kern_49 ?_
  refine z_callV_v (pc := 50) (As := []) (rest := []) (wc := [(m, .inr (6, [.int (iI (0)), .ref s1, .ref s2, .int (iI (sm)), .ref s3, .int (iI (bI (hs = true))), .ref s4, .int (iI (len)), .ref m1, .ref m2, .ref m3, .ref m4, .int (iI (ax)), .ref l1, .ref l2, .int (iI (rm)), .long (hh)])), (s2, zI G 288 (V)), (s1, zI G 48 (S))]) (wr := []) hX (mX6_saves G (m) (s1) (s2) (s3) (s4) (m1) (m2) (m3) (m4) (l1) (l2) (0) (sm) (len) (ax) (rm) (hs) (hh) (S) (V) (by first | assumption | omega | (clear ex hX; grind [uZ]))) rfl rfl rfl (C := RX6) gX6_kern_X6_saves ⟨rfl, hdX6_saves⟩ (T := TX6) (N := 17) 0 rfl rfl ⟨Nat.le_of_ble_eq_true rfl, Nat.le_of_ble_eq_true rfl⟩ [1, 0, 2] [] rfl rfl (by decide) (by decide) (by decide) rfl (Nat.le_of_ble_eq_true rfl) ⟨Nat.le_of_ble_eq_true rfl, Nat.le_of_ble_eq_true rfl⟩ dX6_kern_50 (fun u_7 h_7 => ?_)
  show Z G X 4 (0) (0) [(m, .inr (6, [.int (iI (0)), .ref s1, .ref s2, .int (iI (pSz sm + 1)), .ref s3, .int (iI (bI (hs = true))), .ref s4, .int (iI (len)), .ref m1, .ref m2, .ref m3, .ref m4, .int (iI (ax)), .ref l1, .ref l2, .int (iI (rm)), .long (hh)])), (s2, zI G 288 (svS V sm S)), (s1, zI G 48 (S))] 53 [(0, .ref m), (1, .int (iI (q))), (2, .int (iI (v)))] []
  refine z_aload_n (pc := 53) hX 0 rfl rfl dX6_kern_53 ?_
  refine z_get (pc := 54) hX (T := TX6) (C := RX6) (N := 17) (i := 7) (ref := "SignLettersModel") (name := "s") (desc := "[I") hX6_kern_X6 0 rfl rfl 1 (by decide) kX6_kern_f7 ⟨rfl, rfl, rfl⟩ (v := .ref s1) rfl dX6_kern_54 ?_
  refine z_bipush (pc := 57) hX (z := 28) (by decide +kernel) dX6_kern_57 ?_
  refine z_iload_n (pc := 59) hX 1 rfl rfl dX6_kern_59 ?_
  refine z_iadd (pc := 60) hX dX6_kern_60 ?_
  refine z_iald (pc := 61) hX (N := 48) (F := S) 2 rfl (by omega) (by omega) dX6_kern_61 ?_
  refine z_istore_n (pc := 62) hX (loc' := [(3, .int (iI (S (28 + q)))), (0, .ref m), (1, .int (iI (q))), (2, .int (iI (v)))]) rfl (by decide) rfl dX6_kern_62 ?_
  refine z_aload_n (pc := 63) hX 1 rfl rfl dX6_kern_63 ?_
  refine z_get (pc := 64) hX (T := TX6) (C := RX6) (N := 17) (i := 7) (ref := "SignLettersModel") (name := "s") (desc := "[I") hX6_kern_X6 0 rfl rfl 1 (by decide) kX6_kern_f7 ⟨rfl, rfl, rfl⟩ (v := .ref s1) rfl dX6_kern_64 ?_
  refine z_bipush (pc := 67) hX (z := 28) (by decide +kernel) dX6_kern_67 ?_
  refine z_iload_n (pc := 69) hX 2 rfl rfl dX6_kern_69 ?_
  refine z_iadd (pc := 70) hX dX6_kern_70 ?_
  refine z_iload_n (pc := 71) hX 3 rfl rfl dX6_kern_71 ?_
  refine z_iast (pc := 72) hX (N := 48) (F := S) (WS' := [(m, .inr (6, [.int (iI (0)), .ref s1, .ref s2, .int (iI (pSz sm + 1)), .ref s3, .int (iI (bI (hs = true))), .ref s4, .int (iI (len)), .ref m1, .ref m2, .ref m3, .ref m4, .int (iI (ax)), .ref l1, .ref l2, .int (iI (rm)), .long (hh)])), (s2, zI G 288 (svS V sm S)), (s1, zI G 48 (uZ S (28 + q) v))]) 2 rfl (by omega) (by omega) rfl dX6_kern_72 ?_
  refine z_iload_n (pc := 73) hX 0 rfl rfl dX6_kern_73 ?_
  refine z_bipush (pc := 74) hX (z := 10) (by decide +kernel) dX6_kern_74 ?_
  refine z_iadd (pc := 76) hX dX6_kern_76 ?_
  exact ex _ _ _ () _ dX6_kern_77 rfl (congrArg iI (show ((S (28 + q)) + 10 : Int) = S (28 + q) + 10 from by first | rfl | omega | (clear ex hX; grind [uZ]))) rfl
set_option maxHeartbeats 400000 in
set_option maxRecDepth 100000 in
theorem mX6_kern_no (G : ZG) (m : Nat) (s1 : Nat) (s2 : Nat) (s3 : Nat) (s4 : Nat) (m1 : Nat) (m2 : Nat) (m3 : Nat) (m4 : Nat) (l1 : Nat) (l2 : Nat) (th : Int) (sm : Int) (len : Int) (ax : Int) (rm : Int) (hs : Bool) (hh : Int64) (S : Int → Int) (q : Int) (v : Int) (hn : 0 ≤ S 7 ∧ S 7 ≤ 20) (hF : okF (sF S) (S 7)) (hq : -2147483648 ≤ q ∧ q < 2147483648) (hv : -2147483648 ≤ v ∧ v < 2147483648) (hbad : ¬ ((0 ≤ q ∧ q < S 7) ∧ (-5 ≤ v ∧ v ≤ 5) ∧ (letA (sF S) (S 7) q ≠ -1))) : zMeti yX6_kern wsX6_kern { frames := 3, cells := 0, slots := 0, locals := 64 } G [.ref m, .int (iI (q)), .int (iI (v))] [(m, .inr (6, [.int (iI (th)), .ref s1, .ref s2, .int (iI (sm)), .ref s3, .int (iI (bI (hs = true))), .ref s4, .int (iI (len)), .ref m1, .ref m2, .ref m3, .ref m4, .int (iI (ax)), .ref l1, .ref l2, .int (iI (rm)), .long (hh)])), (s1, zI G 48 (S))] (fun (rr : Int32) (uu : Unit) => rr = iI (0)) (fun (uu : Unit) => [(m, .inr (6, [.int (iI (if 0 ≤ q ∧ q < S 7 then (if -5 ≤ v ∧ v ≤ 5 then (if letA (sF S) (S 7) q ≠ -1 then (0) else 3) else 2) else 1)), .ref s1, .ref s2, .int (iI (sm)), .ref s3, .int (iI (bI (hs = true))), .ref s4, .int (iI (len)), .ref m1, .ref m2, .ref m3, .ref m4, .int (iI (ax)), .ref l1, .ref l2, .int (iI (rm)), .long (hh)])), (s1, zI G 48 (S))]) 0 0 := by
  refine z_meti (cc := cX6_kern) (nL := 4) (rt := .int) (by decide +kernel) rfl (Nat.le_of_ble_eq_true rfl) (fun X hX ex => ?_)
  have hX : ZOk G X 4 cX6_kern RX6 wsX6_kern { frames := 3, cells := 0, slots := 0, locals := 64 } := hX
  show Z G X 4 (0) (0) [(m, .inr (6, [.int (iI (th)), .ref s1, .ref s2, .int (iI (sm)), .ref s3, .int (iI (bI (hs = true))), .ref s4, .int (iI (len)), .ref m1, .ref m2, .ref m3, .ref m4, .int (iI (ax)), .ref l1, .ref l2, .int (iI (rm)), .long (hh)])), (s1, zI G 48 (S))] 0 [(0, .ref m), (1, .int (iI (q))), (2, .int (iI (v)))] []
  refine z_aload_n (pc := 0) hX 0 rfl rfl dX6_kern_0 ?_
  refine z_iconst (pc := 1) hX dX6_kern_1 ?_
  refine z_put (pc := 2) hX (T := TX6) (C := RX6) (N := 17) (i := 40) (ref := "SignLettersModel") (name := "thrown") (desc := "I") (WS' := [(m, .inr (6, [.int (iI (0)), .ref s1, .ref s2, .int (iI (sm)), .ref s3, .int (iI (bI (hs = true))), .ref s4, .int (iI (len)), .ref m1, .ref m2, .ref m3, .ref m4, .int (iI (ax)), .ref l1, .ref l2, .int (iI (rm)), .long (hh)])), (s1, zI G 48 (S))]) tyX6 tyX6_ok nmX6 hX6_kern_X6 0 rfl rfl 0 (by decide) kX6_kern_f40 ⟨rfl, rfl, rfl⟩ rfl (ty := .int) (by decide +kernel) rfl rfl (Nat.le_of_ble_eq_true rfl) rfl dX6_kern_2 ?_
  refine z_aload_n (pc := 5) hX 0 rfl rfl dX6_kern_5 ?_
  refine z_iload_n (pc := 6) hX 1 rfl rfl dX6_kern_6 ?_
  refine z_callV_i (pc := 7) (As := [.int (iI (q))]) (rest := []) (wc := [(m, .inr (6, [.int (iI (0)), .ref s1, .ref s2, .int (iI (sm)), .ref s3, .int (iI (bI (hs = true))), .ref s4, .int (iI (len)), .ref m1, .ref m2, .ref m3, .ref m4, .int (iI (ax)), .ref l1, .ref l2, .int (iI (rm)), .long (hh)])), (s1, zI G 48 (S))]) (wr := []) hX (mX6_isItem G (m) (s1) (s2) (s3) (s4) (m1) (m2) (m3) (m4) (l1) (l2) (0) (sm) (len) (ax) (rm) (hs) (hh) (S) (q) (by first | assumption | omega | (clear ex hX; grind [uZ])) (by first | assumption | omega | (clear ex hX; grind [uZ]))) rfl rfl rfl (C := RX6) gX6_kern_X6_isItem ⟨rfl, hdX6_isItem⟩ (T := TX6) (N := 17) 0 rfl rfl ⟨Nat.le_of_ble_eq_true rfl, Nat.le_of_ble_eq_true rfl⟩ [0, 1] [] rfl rfl (by decide) (by decide) (by decide) rfl (Nat.le_of_ble_eq_true rfl) ⟨Nat.le_of_ble_eq_true rfl, Nat.le_of_ble_eq_true rfl⟩ dX6_kern_7 (fun r_1 u_1 h_1 => ?_)
  subst h_1
  show Z G X 4 (0) (0) [(m, .inr (6, [.int (iI (0)), .ref s1, .ref s2, .int (iI (sm)), .ref s3, .int (iI (bI (hs = true))), .ref s4, .int (iI (len)), .ref m1, .ref m2, .ref m3, .ref m4, .int (iI (ax)), .ref l1, .ref l2, .int (iI (rm)), .long (hh)])), (s1, zI G 48 (S))] 10 [(0, .ref m), (1, .int (iI (q))), (2, .int (iI (v)))] [.int (iI (bI (0 ≤ q ∧ q < S 7)))]
  refine z_bif_ne (pc := 10) (tgt := 19) hX (by decide) dX6_kern_10 (fun c_2 => ?_) (fun c_2 => ?_)
  · refine z_iload_n (pc := 19) hX 2 rfl rfl dX6_kern_19 ?_
    refine z_bipush (pc := 20) hX (z := -5) (by decide +kernel) dX6_kern_20 ?_
    refine z_iconst (pc := 22) hX dX6_kern_22 ?_
    refine z_callS_i (pc := 23) (As := [.int (iI (v)), .int (iI ((-5))), .int (iI (5))]) (rest := []) (wc := []) (wr := [(m, .inr (6, [.int (iI (0)), .ref s1, .ref s2, .int (iI (sm)), .ref s3, .int (iI (bI (hs = true))), .ref s4, .int (iI (len)), .ref m1, .ref m2, .ref m3, .ref m4, .int (iI (ax)), .ref l1, .ref l2, .int (iI (rm)), .long (hh)])), (s1, zI G 48 (S))]) hX (mX6_in G (v) (-5) (5) (by first | assumption | omega | (clear ex hX; grind [uZ])) (by first | assumption | omega | (clear ex hX; grind [uZ])) (by first | assumption | omega | (clear ex hX; grind [uZ]))) rfl rfl rfl gX6_kern_X6_in hdX6_in ⟨Nat.le_of_ble_eq_true rfl, Nat.le_of_ble_eq_true rfl⟩ [] [0, 1] rfl rfl (by decide) (by decide) (by decide) rfl (Nat.le_of_ble_eq_true rfl) ⟨Nat.le_of_ble_eq_true rfl, Nat.le_of_ble_eq_true rfl⟩ dX6_kern_23 (fun r_3 u_3 h_3 => ?_)
    subst h_3
    show Z G X 4 (0) (0) [(m, .inr (6, [.int (iI (0)), .ref s1, .ref s2, .int (iI (sm)), .ref s3, .int (iI (bI (hs = true))), .ref s4, .int (iI (len)), .ref m1, .ref m2, .ref m3, .ref m4, .int (iI (ax)), .ref l1, .ref l2, .int (iI (rm)), .long (hh)])), (s1, zI G 48 (S))] 26 [(0, .ref m), (1, .int (iI (q))), (2, .int (iI (v)))] [.int (iI (bI ((-5) ≤ v ∧ v ≤ 5)))]
    refine z_bif_ne (pc := 26) (tgt := 35) hX (by decide) dX6_kern_26 (fun c_4 => ?_) (fun c_4 => ?_)
    · refine z_aload_n (pc := 35) hX 0 rfl rfl dX6_kern_35 ?_
      refine z_iload_n (pc := 36) hX 1 rfl rfl dX6_kern_36 ?_
      refine z_callV_i (pc := 37) (As := [.int (iI (q))]) (rest := []) (wc := [(m, .inr (6, [.int (iI (0)), .ref s1, .ref s2, .int (iI (sm)), .ref s3, .int (iI (bI (hs = true))), .ref s4, .int (iI (len)), .ref m1, .ref m2, .ref m3, .ref m4, .int (iI (ax)), .ref l1, .ref l2, .int (iI (rm)), .long (hh)])), (s1, zI G 48 (S))]) (wr := []) hX (mX6_isLetter G (m) (s1) (s2) (s3) (s4) (m1) (m2) (m3) (m4) (l1) (l2) (0) (sm) (len) (ax) (rm) (hs) (hh) (S) (q) (by first | assumption | omega | (clear ex hX; grind [uZ])) (by first | assumption | omega | (clear ex hX; grind [uZ])) (by first | assumption | omega | (clear ex hX; grind [uZ]))) rfl rfl rfl (C := RX6) gX6_kern_X6_isLetter ⟨rfl, hdX6_isLetter⟩ (T := TX6) (N := 17) 0 rfl rfl ⟨Nat.le_of_ble_eq_true rfl, Nat.le_of_ble_eq_true rfl⟩ [0, 1] [] rfl rfl (by decide) (by decide) (by decide) rfl (Nat.le_of_ble_eq_true rfl) ⟨Nat.le_of_ble_eq_true rfl, Nat.le_of_ble_eq_true rfl⟩ dX6_kern_37 (fun r_5 u_5 h_5 => ?_)
      subst h_5
      show Z G X 4 (0) (0) [(m, .inr (6, [.int (iI (0)), .ref s1, .ref s2, .int (iI (sm)), .ref s3, .int (iI (bI (hs = true))), .ref s4, .int (iI (len)), .ref m1, .ref m2, .ref m3, .ref m4, .int (iI (ax)), .ref l1, .ref l2, .int (iI (rm)), .long (hh)])), (s1, zI G 48 (S))] 40 [(0, .ref m), (1, .int (iI (q))), (2, .int (iI (v)))] [.int (iI (bI (letA (sF S) (S 7) q ≠ -1)))]
      refine z_bif_ne (pc := 40) (tgt := 49) hX (by decide) dX6_kern_40 (fun c_6 => ?_) (fun c_6 => ?_)
      · exact absurd ⟨by assumption, by assumption, by assumption⟩ hbad
      · refine z_aload_n (pc := 43) hX 0 rfl rfl dX6_kern_43 ?_
        refine z_iconst (pc := 44) hX dX6_kern_44 ?_
        refine z_callV_i (pc := 45) (As := [.int (iI (3))]) (rest := []) (wc := [(m, .inr (6, [.int (iI (0)), .ref s1, .ref s2, .int (iI (sm)), .ref s3, .int (iI (bI (hs = true))), .ref s4, .int (iI (len)), .ref m1, .ref m2, .ref m3, .ref m4, .int (iI (ax)), .ref l1, .ref l2, .int (iI (rm)), .long (hh)]))]) (wr := [(s1, zI G 48 (S))]) hX (mX6_fails G (m) (s1) (s2) (s3) (s4) (m1) (m2) (m3) (m4) (l1) (l2) (0) (sm) (len) (ax) (rm) (hs) (hh) (S) (3) ) rfl rfl rfl (C := RX6) gX6_kern_X6_fails ⟨rfl, hdX6_fails⟩ (T := TX6) (N := 17) 0 rfl rfl ⟨Nat.le_of_ble_eq_true rfl, Nat.le_of_ble_eq_true rfl⟩ [0] [1] rfl rfl (by decide) (by decide) (by decide) rfl (Nat.le_of_ble_eq_true rfl) ⟨Nat.le_of_ble_eq_true rfl, Nat.le_of_ble_eq_true rfl⟩ dX6_kern_45 (fun r_7 u_7 h_7 => ?_)
        subst h_7
        show Z G X 4 (0) (0) [(s1, zI G 48 (S)), (m, .inr (6, [.int (iI (3)), .ref s1, .ref s2, .int (iI (sm)), .ref s3, .int (iI (bI (hs = true))), .ref s4, .int (iI (len)), .ref m1, .ref m2, .ref m3, .ref m4, .int (iI (ax)), .ref l1, .ref l2, .int (iI (rm)), .long (hh)]))] 48 [(0, .ref m), (1, .int (iI (q))), (2, .int (iI (v)))] [.int (iI (0))]
        refine z_at [0, 1, 2] [1, 0] (loc' := [(0, .ref m), (1, .int (iI (q))), (2, .int (iI (v)))]) (WS' := [(m, .inr (6, [.int (iI (3)), .ref s1, .ref s2, .int (iI (sm)), .ref s3, .int (iI (bI (hs = true))), .ref s4, .int (iI (len)), .ref m1, .ref m2, .ref m3, .ref m4, .int (iI (ax)), .ref l1, .ref l2, .int (iI (rm)), .long (hh)])), (s1, zI G 48 (S))]) rfl (by decide) rfl ?_
        refine (congrArg (fun z_ : Int => Z G X 4 (0) (0) [(m, .inr (6, [.int (iI (z_)), .ref s1, .ref s2, .int (iI (sm)), .ref s3, .int (iI (bI (hs = true))), .ref s4, .int (iI (len)), .ref m1, .ref m2, .ref m3, .ref m4, .int (iI (ax)), .ref l1, .ref l2, .int (iI (rm)), .long (hh)])), (s1, zI G 48 (S))] 48 [(0, .ref m), (1, .int (iI (q))), (2, .int (iI (v)))] [.int (iI (0))]) (show (3 : Int) = if 0 ≤ q ∧ q < S 7 then (if -5 ≤ v ∧ v ≤ 5 then (if letA (sF S) (S 7) q ≠ -1 then (0) else 3) else 2) else 1 from by first | rfl | (rw [if_neg (by omega)]; done) | (rw [if_pos (by omega), if_neg (by omega)]; done) | (rw [if_pos (by omega), if_pos (by omega), if_neg (by omega)]; done) | (rw [if_pos (by omega), if_pos (by omega), if_pos (by omega)]; done))).mpr ?_
        exact ex _ _ _ () _ dX6_kern_48 rfl rfl rfl
    · refine z_aload_n (pc := 29) hX 0 rfl rfl dX6_kern_29 ?_
      refine z_iconst (pc := 30) hX dX6_kern_30 ?_
      refine z_callV_i (pc := 31) (As := [.int (iI (2))]) (rest := []) (wc := [(m, .inr (6, [.int (iI (0)), .ref s1, .ref s2, .int (iI (sm)), .ref s3, .int (iI (bI (hs = true))), .ref s4, .int (iI (len)), .ref m1, .ref m2, .ref m3, .ref m4, .int (iI (ax)), .ref l1, .ref l2, .int (iI (rm)), .long (hh)]))]) (wr := [(s1, zI G 48 (S))]) hX (mX6_fails G (m) (s1) (s2) (s3) (s4) (m1) (m2) (m3) (m4) (l1) (l2) (0) (sm) (len) (ax) (rm) (hs) (hh) (S) (2) ) rfl rfl rfl (C := RX6) gX6_kern_X6_fails ⟨rfl, hdX6_fails⟩ (T := TX6) (N := 17) 0 rfl rfl ⟨Nat.le_of_ble_eq_true rfl, Nat.le_of_ble_eq_true rfl⟩ [0] [1] rfl rfl (by decide) (by decide) (by decide) rfl (Nat.le_of_ble_eq_true rfl) ⟨Nat.le_of_ble_eq_true rfl, Nat.le_of_ble_eq_true rfl⟩ dX6_kern_31 (fun r_8 u_8 h_8 => ?_)
      subst h_8
      show Z G X 4 (0) (0) [(s1, zI G 48 (S)), (m, .inr (6, [.int (iI (2)), .ref s1, .ref s2, .int (iI (sm)), .ref s3, .int (iI (bI (hs = true))), .ref s4, .int (iI (len)), .ref m1, .ref m2, .ref m3, .ref m4, .int (iI (ax)), .ref l1, .ref l2, .int (iI (rm)), .long (hh)]))] 34 [(0, .ref m), (1, .int (iI (q))), (2, .int (iI (v)))] [.int (iI (0))]
      refine z_at [0, 1, 2] [1, 0] (loc' := [(0, .ref m), (1, .int (iI (q))), (2, .int (iI (v)))]) (WS' := [(m, .inr (6, [.int (iI (2)), .ref s1, .ref s2, .int (iI (sm)), .ref s3, .int (iI (bI (hs = true))), .ref s4, .int (iI (len)), .ref m1, .ref m2, .ref m3, .ref m4, .int (iI (ax)), .ref l1, .ref l2, .int (iI (rm)), .long (hh)])), (s1, zI G 48 (S))]) rfl (by decide) rfl ?_
      refine (congrArg (fun z_ : Int => Z G X 4 (0) (0) [(m, .inr (6, [.int (iI (z_)), .ref s1, .ref s2, .int (iI (sm)), .ref s3, .int (iI (bI (hs = true))), .ref s4, .int (iI (len)), .ref m1, .ref m2, .ref m3, .ref m4, .int (iI (ax)), .ref l1, .ref l2, .int (iI (rm)), .long (hh)])), (s1, zI G 48 (S))] 34 [(0, .ref m), (1, .int (iI (q))), (2, .int (iI (v)))] [.int (iI (0))]) (show (2 : Int) = if 0 ≤ q ∧ q < S 7 then (if -5 ≤ v ∧ v ≤ 5 then (if letA (sF S) (S 7) q ≠ -1 then (0) else 3) else 2) else 1 from by first | rfl | (rw [if_neg (by omega)]; done) | (rw [if_pos (by omega), if_neg (by omega)]; done) | (rw [if_pos (by omega), if_pos (by omega), if_neg (by omega)]; done) | (rw [if_pos (by omega), if_pos (by omega), if_pos (by omega)]; done))).mpr ?_
      exact ex _ _ _ () _ dX6_kern_34 rfl rfl rfl
  · refine z_aload_n (pc := 13) hX 0 rfl rfl dX6_kern_13 ?_
    refine z_iconst (pc := 14) hX dX6_kern_14 ?_
    refine z_callV_i (pc := 15) (As := [.int (iI (1))]) (rest := []) (wc := [(m, .inr (6, [.int (iI (0)), .ref s1, .ref s2, .int (iI (sm)), .ref s3, .int (iI (bI (hs = true))), .ref s4, .int (iI (len)), .ref m1, .ref m2, .ref m3, .ref m4, .int (iI (ax)), .ref l1, .ref l2, .int (iI (rm)), .long (hh)]))]) (wr := [(s1, zI G 48 (S))]) hX (mX6_fails G (m) (s1) (s2) (s3) (s4) (m1) (m2) (m3) (m4) (l1) (l2) (0) (sm) (len) (ax) (rm) (hs) (hh) (S) (1) ) rfl rfl rfl (C := RX6) gX6_kern_X6_fails ⟨rfl, hdX6_fails⟩ (T := TX6) (N := 17) 0 rfl rfl ⟨Nat.le_of_ble_eq_true rfl, Nat.le_of_ble_eq_true rfl⟩ [0] [1] rfl rfl (by decide) (by decide) (by decide) rfl (Nat.le_of_ble_eq_true rfl) ⟨Nat.le_of_ble_eq_true rfl, Nat.le_of_ble_eq_true rfl⟩ dX6_kern_15 (fun r_9 u_9 h_9 => ?_)
    subst h_9
    show Z G X 4 (0) (0) [(s1, zI G 48 (S)), (m, .inr (6, [.int (iI (1)), .ref s1, .ref s2, .int (iI (sm)), .ref s3, .int (iI (bI (hs = true))), .ref s4, .int (iI (len)), .ref m1, .ref m2, .ref m3, .ref m4, .int (iI (ax)), .ref l1, .ref l2, .int (iI (rm)), .long (hh)]))] 18 [(0, .ref m), (1, .int (iI (q))), (2, .int (iI (v)))] [.int (iI (0))]
    refine z_at [0, 1, 2] [1, 0] (loc' := [(0, .ref m), (1, .int (iI (q))), (2, .int (iI (v)))]) (WS' := [(m, .inr (6, [.int (iI (1)), .ref s1, .ref s2, .int (iI (sm)), .ref s3, .int (iI (bI (hs = true))), .ref s4, .int (iI (len)), .ref m1, .ref m2, .ref m3, .ref m4, .int (iI (ax)), .ref l1, .ref l2, .int (iI (rm)), .long (hh)])), (s1, zI G 48 (S))]) rfl (by decide) rfl ?_
    refine (congrArg (fun z_ : Int => Z G X 4 (0) (0) [(m, .inr (6, [.int (iI (z_)), .ref s1, .ref s2, .int (iI (sm)), .ref s3, .int (iI (bI (hs = true))), .ref s4, .int (iI (len)), .ref m1, .ref m2, .ref m3, .ref m4, .int (iI (ax)), .ref l1, .ref l2, .int (iI (rm)), .long (hh)])), (s1, zI G 48 (S))] 18 [(0, .ref m), (1, .int (iI (q))), (2, .int (iI (v)))] [.int (iI (0))]) (show (1 : Int) = if 0 ≤ q ∧ q < S 7 then (if -5 ≤ v ∧ v ≤ 5 then (if letA (sF S) (S 7) q ≠ -1 then (0) else 3) else 2) else 1 from by first | rfl | (rw [if_neg (by omega)]; done) | (rw [if_pos (by omega), if_neg (by omega)]; done) | (rw [if_pos (by omega), if_pos (by omega), if_neg (by omega)]; done) | (rw [if_pos (by omega), if_pos (by omega), if_pos (by omega)]; done))).mpr ?_
    exact ex _ _ _ () _ dX6_kern_18 rfl rfl rfl
theorem hX6_board_X6 : ∀ w ∈ wsX60, w ∈ wsX6_board := by decide +kernel
theorem kX6_board_f40 : Cond.fieldLink RX6 40 "SignLettersModel" "thrown" "I" ∈ wsX6_board := by decide +kernel
theorem kX6_board_f7 : Cond.fieldLink RX6 7 "SignLettersModel" "s" "[I" ∈ wsX6_board := by decide +kernel
set_option maxHeartbeats 400000 in
set_option maxRecDepth 100000 in
theorem mX6_board_ok (G : ZG) (m : Nat) (s1 : Nat) (s2 : Nat) (s3 : Nat) (s4 : Nat) (m1 : Nat) (m2 : Nat) (m3 : Nat) (m4 : Nat) (l1 : Nat) (l2 : Nat) (th : Int) (sm : Int) (len : Int) (ax : Int) (rm : Int) (hs : Bool) (hh : Int64) (S : Int → Int) (V : Int → Int) (v : Int) (hsm : 0 ≤ sm ∧ sm ≤ 6) (hv : -2147483648 ≤ v ∧ v < 2147483648) (ok1 : 50 ≤ v ∧ v ≤ 600) : zMeti yX6_board wsX6_board { frames := 1, cells := 0, slots := 0, locals := 22 } G [.ref m, .int (iI (v))] [(m, .inr (6, [.int (iI (th)), .ref s1, .ref s2, .int (iI (sm)), .ref s3, .int (iI (bI (hs = true))), .ref s4, .int (iI (len)), .ref m1, .ref m2, .ref m3, .ref m4, .int (iI (ax)), .ref l1, .ref l2, .int (iI (rm)), .long (hh)])), (s2, zI G 288 (V)), (s1, zI G 48 (S))] (fun (rr : Int32) (uu : Unit) => rr = iI (S 6)) (fun (uu : Unit) => [(m, .inr (6, [.int (iI (0)), .ref s1, .ref s2, .int (iI (pSz sm + 1)), .ref s3, .int (iI (bI (hs = true))), .ref s4, .int (iI (len)), .ref m1, .ref m2, .ref m3, .ref m4, .int (iI (ax)), .ref l1, .ref l2, .int (iI (rm)), .long (hh)])), (s2, zI G 288 (svS V sm S)), (s1, zI G 48 (uZ S 6 v))]) 0 0 := by
  refine z_meti (cc := cX6_board) (nL := 3) (rt := .int) (by decide +kernel) rfl (Nat.le_of_ble_eq_true rfl) (fun X hX ex => ?_)
  have hX : ZOk G X 3 cX6_board RX6 wsX6_board { frames := 1, cells := 0, slots := 0, locals := 22 } := hX
  show Z G X 3 (0) (0) [(m, .inr (6, [.int (iI (th)), .ref s1, .ref s2, .int (iI (sm)), .ref s3, .int (iI (bI (hs = true))), .ref s4, .int (iI (len)), .ref m1, .ref m2, .ref m3, .ref m4, .int (iI (ax)), .ref l1, .ref l2, .int (iI (rm)), .long (hh)])), (s2, zI G 288 (V)), (s1, zI G 48 (S))] 0 [(0, .ref m), (1, .int (iI (v)))] []
  refine z_aload_n (pc := 0) hX 0 rfl rfl dX6_board_0 ?_
  refine z_iconst (pc := 1) hX dX6_board_1 ?_
  refine z_put (pc := 2) hX (T := TX6) (C := RX6) (N := 17) (i := 40) (ref := "SignLettersModel") (name := "thrown") (desc := "I") (WS' := [(m, .inr (6, [.int (iI (0)), .ref s1, .ref s2, .int (iI (sm)), .ref s3, .int (iI (bI (hs = true))), .ref s4, .int (iI (len)), .ref m1, .ref m2, .ref m3, .ref m4, .int (iI (ax)), .ref l1, .ref l2, .int (iI (rm)), .long (hh)])), (s2, zI G 288 (V)), (s1, zI G 48 (S))]) tyX6 tyX6_ok nmX6 hX6_board_X6 0 rfl rfl 0 (by decide) kX6_board_f40 ⟨rfl, rfl, rfl⟩ rfl (ty := .int) (by decide +kernel) rfl rfl (Nat.le_of_ble_eq_true rfl) rfl dX6_board_2 ?_
  refine z_iload_n (pc := 5) hX 1 rfl rfl dX6_board_5 ?_
  refine z_bipush (pc := 6) hX (z := 50) (by decide +kernel) dX6_board_6 ?_
  refine z_sipush (pc := 8) hX (z := 600) (by decide +kernel) dX6_board_8 ?_
  refine z_callS_i (pc := 11) (As := [.int (iI (v)), .int (iI (50)), .int (iI (600))]) (rest := []) (wc := []) (wr := [(m, .inr (6, [.int (iI (0)), .ref s1, .ref s2, .int (iI (sm)), .ref s3, .int (iI (bI (hs = true))), .ref s4, .int (iI (len)), .ref m1, .ref m2, .ref m3, .ref m4, .int (iI (ax)), .ref l1, .ref l2, .int (iI (rm)), .long (hh)])), (s2, zI G 288 (V)), (s1, zI G 48 (S))]) hX (mX6_in G (v) (50) (600) (by first | assumption | omega | (clear ex hX; grind [uZ])) (by first | assumption | omega | (clear ex hX; grind [uZ])) (by first | assumption | omega | (clear ex hX; grind [uZ]))) rfl rfl rfl gX6_board_X6_in hdX6_in ⟨Nat.le_of_ble_eq_true rfl, Nat.le_of_ble_eq_true rfl⟩ [] [0, 1, 2] rfl rfl (by decide) (by decide) (by decide) rfl (Nat.le_of_ble_eq_true rfl) ⟨Nat.le_of_ble_eq_true rfl, Nat.le_of_ble_eq_true rfl⟩ dX6_board_11 (fun r_1 u_1 h_1 => ?_)
  subst h_1
  show Z G X 3 (0) (0) [(m, .inr (6, [.int (iI (0)), .ref s1, .ref s2, .int (iI (sm)), .ref s3, .int (iI (bI (hs = true))), .ref s4, .int (iI (len)), .ref m1, .ref m2, .ref m3, .ref m4, .int (iI (ax)), .ref l1, .ref l2, .int (iI (rm)), .long (hh)])), (s2, zI G 288 (V)), (s1, zI G 48 (S))] 14 [(0, .ref m), (1, .int (iI (v)))] [.int (iI (bI (50 ≤ v ∧ v ≤ 600)))]
  refine z_bif_ne (pc := 14) (tgt := 23) hX (by decide) dX6_board_14 (fun c_2 => ?_) (fun c_2 => by first | exact absurd c_2 ok1 | exact absurd ok1 c_2)
  refine z_aload_n (pc := 23) hX 0 rfl rfl dX6_board_23 ?_
  refine z_callV_v (pc := 24) (As := []) (rest := []) (wc := [(m, .inr (6, [.int (iI (0)), .ref s1, .ref s2, .int (iI (sm)), .ref s3, .int (iI (bI (hs = true))), .ref s4, .int (iI (len)), .ref m1, .ref m2, .ref m3, .ref m4, .int (iI (ax)), .ref l1, .ref l2, .int (iI (rm)), .long (hh)])), (s2, zI G 288 (V)), (s1, zI G 48 (S))]) (wr := []) hX (mX6_saves G (m) (s1) (s2) (s3) (s4) (m1) (m2) (m3) (m4) (l1) (l2) (0) (sm) (len) (ax) (rm) (hs) (hh) (S) (V) (by first | assumption | omega | (clear ex hX; grind [uZ]))) rfl rfl rfl (C := RX6) gX6_board_X6_saves ⟨rfl, hdX6_saves⟩ (T := TX6) (N := 17) 0 rfl rfl ⟨Nat.le_of_ble_eq_true rfl, Nat.le_of_ble_eq_true rfl⟩ [0, 1, 2] [] rfl rfl (by decide) (by decide) (by decide) rfl (Nat.le_of_ble_eq_true rfl) ⟨Nat.le_of_ble_eq_true rfl, Nat.le_of_ble_eq_true rfl⟩ dX6_board_24 (fun u_3 h_3 => ?_)
  show Z G X 3 (0) (0) [(m, .inr (6, [.int (iI (0)), .ref s1, .ref s2, .int (iI (pSz sm + 1)), .ref s3, .int (iI (bI (hs = true))), .ref s4, .int (iI (len)), .ref m1, .ref m2, .ref m3, .ref m4, .int (iI (ax)), .ref l1, .ref l2, .int (iI (rm)), .long (hh)])), (s2, zI G 288 (svS V sm S)), (s1, zI G 48 (S))] 27 [(0, .ref m), (1, .int (iI (v)))] []
  refine z_aload_n (pc := 27) hX 0 rfl rfl dX6_board_27 ?_
  refine z_get (pc := 28) hX (T := TX6) (C := RX6) (N := 17) (i := 7) (ref := "SignLettersModel") (name := "s") (desc := "[I") hX6_board_X6 0 rfl rfl 1 (by decide) kX6_board_f7 ⟨rfl, rfl, rfl⟩ (v := .ref s1) rfl dX6_board_28 ?_
  refine z_bipush (pc := 31) hX (z := 6) (by decide +kernel) dX6_board_31 ?_
  refine z_iald (pc := 33) hX (N := 48) (F := S) 2 rfl (by omega) (by omega) dX6_board_33 ?_
  refine z_istore_n (pc := 34) hX (loc' := [(2, .int (iI (S 6))), (0, .ref m), (1, .int (iI (v)))]) rfl (by decide) rfl dX6_board_34 ?_
  refine z_aload_n (pc := 35) hX 1 rfl rfl dX6_board_35 ?_
  refine z_get (pc := 36) hX (T := TX6) (C := RX6) (N := 17) (i := 7) (ref := "SignLettersModel") (name := "s") (desc := "[I") hX6_board_X6 0 rfl rfl 1 (by decide) kX6_board_f7 ⟨rfl, rfl, rfl⟩ (v := .ref s1) rfl dX6_board_36 ?_
  refine z_bipush (pc := 39) hX (z := 6) (by decide +kernel) dX6_board_39 ?_
  refine z_iload_n (pc := 41) hX 2 rfl rfl dX6_board_41 ?_
  refine z_iast (pc := 42) hX (N := 48) (F := S) (WS' := [(m, .inr (6, [.int (iI (0)), .ref s1, .ref s2, .int (iI (pSz sm + 1)), .ref s3, .int (iI (bI (hs = true))), .ref s4, .int (iI (len)), .ref m1, .ref m2, .ref m3, .ref m4, .int (iI (ax)), .ref l1, .ref l2, .int (iI (rm)), .long (hh)])), (s2, zI G 288 (svS V sm S)), (s1, zI G 48 (uZ S 6 v))]) 2 rfl (by omega) (by omega) rfl dX6_board_42 ?_
  refine z_iload_n (pc := 43) hX 0 rfl rfl dX6_board_43 ?_
  exact ex _ _ _ () _ dX6_board_44 rfl rfl rfl
set_option maxHeartbeats 400000 in
set_option maxRecDepth 100000 in
theorem mX6_board_no (G : ZG) (m : Nat) (s1 : Nat) (s2 : Nat) (s3 : Nat) (s4 : Nat) (m1 : Nat) (m2 : Nat) (m3 : Nat) (m4 : Nat) (l1 : Nat) (l2 : Nat) (th : Int) (sm : Int) (len : Int) (ax : Int) (rm : Int) (hs : Bool) (hh : Int64) (S : Int → Int) (v : Int) (hv : -2147483648 ≤ v ∧ v < 2147483648) (hbad : ¬ ((50 ≤ v ∧ v ≤ 600))) : zMeti yX6_board wsX6_board { frames := 1, cells := 0, slots := 0, locals := 22 } G [.ref m, .int (iI (v))] [(m, .inr (6, [.int (iI (th)), .ref s1, .ref s2, .int (iI (sm)), .ref s3, .int (iI (bI (hs = true))), .ref s4, .int (iI (len)), .ref m1, .ref m2, .ref m3, .ref m4, .int (iI (ax)), .ref l1, .ref l2, .int (iI (rm)), .long (hh)])), (s1, zI G 48 (S))] (fun (rr : Int32) (uu : Unit) => rr = iI (0)) (fun (uu : Unit) => [(m, .inr (6, [.int (iI (if 50 ≤ v ∧ v ≤ 600 then (0) else 1)), .ref s1, .ref s2, .int (iI (sm)), .ref s3, .int (iI (bI (hs = true))), .ref s4, .int (iI (len)), .ref m1, .ref m2, .ref m3, .ref m4, .int (iI (ax)), .ref l1, .ref l2, .int (iI (rm)), .long (hh)])), (s1, zI G 48 (S))]) 0 0 := by
  refine z_meti (cc := cX6_board) (nL := 3) (rt := .int) (by decide +kernel) rfl (Nat.le_of_ble_eq_true rfl) (fun X hX ex => ?_)
  have hX : ZOk G X 3 cX6_board RX6 wsX6_board { frames := 1, cells := 0, slots := 0, locals := 22 } := hX
  show Z G X 3 (0) (0) [(m, .inr (6, [.int (iI (th)), .ref s1, .ref s2, .int (iI (sm)), .ref s3, .int (iI (bI (hs = true))), .ref s4, .int (iI (len)), .ref m1, .ref m2, .ref m3, .ref m4, .int (iI (ax)), .ref l1, .ref l2, .int (iI (rm)), .long (hh)])), (s1, zI G 48 (S))] 0 [(0, .ref m), (1, .int (iI (v)))] []
  refine z_aload_n (pc := 0) hX 0 rfl rfl dX6_board_0 ?_
  refine z_iconst (pc := 1) hX dX6_board_1 ?_
  refine z_put (pc := 2) hX (T := TX6) (C := RX6) (N := 17) (i := 40) (ref := "SignLettersModel") (name := "thrown") (desc := "I") (WS' := [(m, .inr (6, [.int (iI (0)), .ref s1, .ref s2, .int (iI (sm)), .ref s3, .int (iI (bI (hs = true))), .ref s4, .int (iI (len)), .ref m1, .ref m2, .ref m3, .ref m4, .int (iI (ax)), .ref l1, .ref l2, .int (iI (rm)), .long (hh)])), (s1, zI G 48 (S))]) tyX6 tyX6_ok nmX6 hX6_board_X6 0 rfl rfl 0 (by decide) kX6_board_f40 ⟨rfl, rfl, rfl⟩ rfl (ty := .int) (by decide +kernel) rfl rfl (Nat.le_of_ble_eq_true rfl) rfl dX6_board_2 ?_
  refine z_iload_n (pc := 5) hX 1 rfl rfl dX6_board_5 ?_
  refine z_bipush (pc := 6) hX (z := 50) (by decide +kernel) dX6_board_6 ?_
  refine z_sipush (pc := 8) hX (z := 600) (by decide +kernel) dX6_board_8 ?_
  refine z_callS_i (pc := 11) (As := [.int (iI (v)), .int (iI (50)), .int (iI (600))]) (rest := []) (wc := []) (wr := [(m, .inr (6, [.int (iI (0)), .ref s1, .ref s2, .int (iI (sm)), .ref s3, .int (iI (bI (hs = true))), .ref s4, .int (iI (len)), .ref m1, .ref m2, .ref m3, .ref m4, .int (iI (ax)), .ref l1, .ref l2, .int (iI (rm)), .long (hh)])), (s1, zI G 48 (S))]) hX (mX6_in G (v) (50) (600) (by first | assumption | omega | (clear ex hX; grind [uZ])) (by first | assumption | omega | (clear ex hX; grind [uZ])) (by first | assumption | omega | (clear ex hX; grind [uZ]))) rfl rfl rfl gX6_board_X6_in hdX6_in ⟨Nat.le_of_ble_eq_true rfl, Nat.le_of_ble_eq_true rfl⟩ [] [0, 1] rfl rfl (by decide) (by decide) (by decide) rfl (Nat.le_of_ble_eq_true rfl) ⟨Nat.le_of_ble_eq_true rfl, Nat.le_of_ble_eq_true rfl⟩ dX6_board_11 (fun r_1 u_1 h_1 => ?_)
  subst h_1
  show Z G X 3 (0) (0) [(m, .inr (6, [.int (iI (0)), .ref s1, .ref s2, .int (iI (sm)), .ref s3, .int (iI (bI (hs = true))), .ref s4, .int (iI (len)), .ref m1, .ref m2, .ref m3, .ref m4, .int (iI (ax)), .ref l1, .ref l2, .int (iI (rm)), .long (hh)])), (s1, zI G 48 (S))] 14 [(0, .ref m), (1, .int (iI (v)))] [.int (iI (bI (50 ≤ v ∧ v ≤ 600)))]
  refine z_bif_ne (pc := 14) (tgt := 23) hX (by decide) dX6_board_14 (fun c_2 => ?_) (fun c_2 => ?_)
  · exact absurd (by assumption) hbad
  · refine z_aload_n (pc := 17) hX 0 rfl rfl dX6_board_17 ?_
    refine z_iconst (pc := 18) hX dX6_board_18 ?_
    refine z_callV_i (pc := 19) (As := [.int (iI (1))]) (rest := []) (wc := [(m, .inr (6, [.int (iI (0)), .ref s1, .ref s2, .int (iI (sm)), .ref s3, .int (iI (bI (hs = true))), .ref s4, .int (iI (len)), .ref m1, .ref m2, .ref m3, .ref m4, .int (iI (ax)), .ref l1, .ref l2, .int (iI (rm)), .long (hh)]))]) (wr := [(s1, zI G 48 (S))]) hX (mX6_fails G (m) (s1) (s2) (s3) (s4) (m1) (m2) (m3) (m4) (l1) (l2) (0) (sm) (len) (ax) (rm) (hs) (hh) (S) (1) ) rfl rfl rfl (C := RX6) gX6_board_X6_fails ⟨rfl, hdX6_fails⟩ (T := TX6) (N := 17) 0 rfl rfl ⟨Nat.le_of_ble_eq_true rfl, Nat.le_of_ble_eq_true rfl⟩ [0] [1] rfl rfl (by decide) (by decide) (by decide) rfl (Nat.le_of_ble_eq_true rfl) ⟨Nat.le_of_ble_eq_true rfl, Nat.le_of_ble_eq_true rfl⟩ dX6_board_19 (fun r_3 u_3 h_3 => ?_)
    subst h_3
    show Z G X 3 (0) (0) [(s1, zI G 48 (S)), (m, .inr (6, [.int (iI (1)), .ref s1, .ref s2, .int (iI (sm)), .ref s3, .int (iI (bI (hs = true))), .ref s4, .int (iI (len)), .ref m1, .ref m2, .ref m3, .ref m4, .int (iI (ax)), .ref l1, .ref l2, .int (iI (rm)), .long (hh)]))] 22 [(0, .ref m), (1, .int (iI (v)))] [.int (iI (0))]
    refine z_at [0, 1] [1, 0] (loc' := [(0, .ref m), (1, .int (iI (v)))]) (WS' := [(m, .inr (6, [.int (iI (1)), .ref s1, .ref s2, .int (iI (sm)), .ref s3, .int (iI (bI (hs = true))), .ref s4, .int (iI (len)), .ref m1, .ref m2, .ref m3, .ref m4, .int (iI (ax)), .ref l1, .ref l2, .int (iI (rm)), .long (hh)])), (s1, zI G 48 (S))]) rfl (by decide) rfl ?_
    refine (congrArg (fun z_ : Int => Z G X 3 (0) (0) [(m, .inr (6, [.int (iI (z_)), .ref s1, .ref s2, .int (iI (sm)), .ref s3, .int (iI (bI (hs = true))), .ref s4, .int (iI (len)), .ref m1, .ref m2, .ref m3, .ref m4, .int (iI (ax)), .ref l1, .ref l2, .int (iI (rm)), .long (hh)])), (s1, zI G 48 (S))] 22 [(0, .ref m), (1, .int (iI (v)))] [.int (iI (0))]) (show (1 : Int) = if 50 ≤ v ∧ v ≤ 600 then (0) else 1 from by first | rfl | (rw [if_neg (by omega)]; done) | (rw [if_pos (by omega), if_neg (by omega)]; done) | (rw [if_pos (by omega), if_pos (by omega), if_neg (by omega)]; done) | (rw [if_pos (by omega), if_pos (by omega), if_pos (by omega)]; done))).mpr ?_
    exact ex _ _ _ () _ dX6_board_22 rfl rfl rfl
set_option maxHeartbeats 400000 in
set_option maxRecDepth 100000 in
theorem mX6_leastOf (G : ZG) (q : Int) (hq : 0 ≤ q ∧ q < 6) : zMeti yX6_leastOf wsX6_leastOf { frames := 0, cells := 0, slots := 0, locals := 0 } G [.int (iI (q))] [] (fun (rr : Int32) (uu : Unit) => rr = iI (zLs q)) (fun (uu : Unit) => []) 0 0 := by
  refine z_meti (cc := cX6_leastOf) (nL := 1) (rt := .int) (by decide +kernel) rfl (Nat.le_of_ble_eq_true rfl) (fun X hX ex => ?_)
  have hX : ZOk G X 1 cX6_leastOf RX6 wsX6_leastOf { frames := 0, cells := 0, slots := 0, locals := 0 } := hX
  show Z G X 1 (0) (0) [] 0 [(0, .int (iI (q)))] []
  refine z_iload_n (pc := 0) hX 0 rfl rfl dX6_leastOf_0 ?_
  by_cases c_1 : q = 1
  · refine z_tblIn (pc := 1) (tgt := 32) (off := 31) hX (by omega) (by omega) (by rw [c_1]; rfl) (by decide) dX6_leastOf_1 ?_
    refine z_iconst (pc := 32) hX dX6_leastOf_32 ?_
    exact ex _ _ _ () _ dX6_leastOf_33 rfl (congrArg iI (show (5 : Int) = zLs q from by rcases (show q = 0 ∨ q = 1 ∨ q = 2 ∨ q = 3 ∨ q = 4 ∨ q = 5 by omega) with e9 | e9 | e9 | e9 | e9 | e9 <;> first | (subst e9; rfl) | (exfalso; omega))) rfl
  by_cases c_2 : q = 2
  · refine z_tblIn (pc := 1) (tgt := 37) (off := 36) hX (by omega) (by omega) (by rw [c_2]; rfl) (by decide) dX6_leastOf_1 ?_
    refine z_iconst (pc := 37) hX dX6_leastOf_37 ?_
    exact ex _ _ _ () _ dX6_leastOf_38 rfl (congrArg iI (show (1 : Int) = zLs q from by rcases (show q = 0 ∨ q = 1 ∨ q = 2 ∨ q = 3 ∨ q = 4 ∨ q = 5 by omega) with e9 | e9 | e9 | e9 | e9 | e9 <;> first | (subst e9; rfl) | (exfalso; omega))) rfl
  by_cases c_3 : q = 3
  · refine z_tblIn (pc := 1) (tgt := 34) (off := 33) hX (by omega) (by omega) (by rw [c_3]; rfl) (by decide) dX6_leastOf_1 ?_
    refine z_bipush (pc := 34) hX (z := 10) (by decide +kernel) dX6_leastOf_34 ?_
    exact ex _ _ _ () _ dX6_leastOf_36 rfl (congrArg iI (show (10 : Int) = zLs q from by rcases (show q = 0 ∨ q = 1 ∨ q = 2 ∨ q = 3 ∨ q = 4 ∨ q = 5 by omega) with e9 | e9 | e9 | e9 | e9 | e9 <;> first | (subst e9; rfl) | (exfalso; omega))) rfl
  by_cases c_4 : q = 4
  · refine z_tblIn (pc := 1) (tgt := 37) (off := 36) hX (by omega) (by omega) (by rw [c_4]; rfl) (by decide) dX6_leastOf_1 ?_
    refine z_iconst (pc := 37) hX dX6_leastOf_37 ?_
    exact ex _ _ _ () _ dX6_leastOf_38 rfl (congrArg iI (show (1 : Int) = zLs q from by rcases (show q = 0 ∨ q = 1 ∨ q = 2 ∨ q = 3 ∨ q = 4 ∨ q = 5 by omega) with e9 | e9 | e9 | e9 | e9 | e9 <;> first | (subst e9; rfl) | (exfalso; omega))) rfl
  refine z_tblOut (pc := 1) (tgt := 39) hX (by omega) (by omega) (by decide) dX6_leastOf_1 ?_
  refine z_iconst (pc := 39) hX dX6_leastOf_39 ?_
  exact ex _ _ _ () _ dX6_leastOf_40 rfl (congrArg iI (show (0 : Int) = zLs q from by rcases (show q = 0 ∨ q = 1 ∨ q = 2 ∨ q = 3 ∨ q = 4 ∨ q = 5 by omega) with e9 | e9 | e9 | e9 | e9 | e9 <;> first | (subst e9; rfl) | (exfalso; omega))) rfl
set_option maxHeartbeats 400000 in
set_option maxRecDepth 100000 in
theorem mX6_mostOf (G : ZG) (q : Int) (hq : 0 ≤ q ∧ q < 6) : zMeti yX6_mostOf wsX6_mostOf { frames := 0, cells := 0, slots := 0, locals := 0 } G [.int (iI (q))] [] (fun (rr : Int32) (uu : Unit) => rr = iI (zMs q)) (fun (uu : Unit) => []) 0 0 := by
  refine z_meti (cc := cX6_mostOf) (nL := 1) (rt := .int) (by decide +kernel) rfl (Nat.le_of_ble_eq_true rfl) (fun X hX ex => ?_)
  have hX : ZOk G X 1 cX6_mostOf RX6 wsX6_mostOf { frames := 0, cells := 0, slots := 0, locals := 0 } := hX
  show Z G X 1 (0) (0) [] 0 [(0, .int (iI (q)))] []
  refine z_iload_n (pc := 0) hX 0 rfl rfl dX6_mostOf_0 ?_
  by_cases c_1 : q = 0
  · refine z_tblIn (pc := 1) (tgt := 36) (off := 35) hX (by omega) (by omega) (by rw [c_1]; rfl) (by decide) dX6_mostOf_1 ?_
    refine z_iconst (pc := 36) hX dX6_mostOf_36 ?_
    exact ex _ _ _ () _ dX6_mostOf_37 rfl (congrArg iI (show (4 : Int) = zMs q from by rcases (show q = 0 ∨ q = 1 ∨ q = 2 ∨ q = 3 ∨ q = 4 ∨ q = 5 by omega) with e9 | e9 | e9 | e9 | e9 | e9 <;> first | (subst e9; rfl) | (exfalso; omega))) rfl
  by_cases c_2 : q = 1
  · refine z_tblIn (pc := 1) (tgt := 38) (off := 37) hX (by omega) (by omega) (by rw [c_2]; rfl) (by decide) dX6_mostOf_1 ?_
    refine z_bipush (pc := 38) hX (z := 40) (by decide +kernel) dX6_mostOf_38 ?_
    exact ex _ _ _ () _ dX6_mostOf_40 rfl (congrArg iI (show (40 : Int) = zMs q from by rcases (show q = 0 ∨ q = 1 ∨ q = 2 ∨ q = 3 ∨ q = 4 ∨ q = 5 by omega) with e9 | e9 | e9 | e9 | e9 | e9 <;> first | (subst e9; rfl) | (exfalso; omega))) rfl
  by_cases c_3 : q = 2
  · refine z_tblIn (pc := 1) (tgt := 41) (off := 40) hX (by omega) (by omega) (by rw [c_3]; rfl) (by decide) dX6_mostOf_1 ?_
    refine z_bipush (pc := 41) hX (z := 30) (by decide +kernel) dX6_mostOf_41 ?_
    exact ex _ _ _ () _ dX6_mostOf_43 rfl (congrArg iI (show (30 : Int) = zMs q from by rcases (show q = 0 ∨ q = 1 ∨ q = 2 ∨ q = 3 ∨ q = 4 ∨ q = 5 by omega) with e9 | e9 | e9 | e9 | e9 | e9 <;> first | (subst e9; rfl) | (exfalso; omega))) rfl
  by_cases c_4 : q = 3
  · refine z_tblIn (pc := 1) (tgt := 44) (off := 43) hX (by omega) (by omega) (by rw [c_4]; rfl) (by decide) dX6_mostOf_1 ?_
    refine z_sipush (pc := 44) hX (z := 300) (by decide +kernel) dX6_mostOf_44 ?_
    exact ex _ _ _ () _ dX6_mostOf_47 rfl (congrArg iI (show (300 : Int) = zMs q from by rcases (show q = 0 ∨ q = 1 ∨ q = 2 ∨ q = 3 ∨ q = 4 ∨ q = 5 by omega) with e9 | e9 | e9 | e9 | e9 | e9 <;> first | (subst e9; rfl) | (exfalso; omega))) rfl
  by_cases c_5 : q = 4
  · refine z_tblIn (pc := 1) (tgt := 48) (off := 47) hX (by omega) (by omega) (by rw [c_5]; rfl) (by decide) dX6_mostOf_1 ?_
    refine z_bipush (pc := 48) hX (z := 12) (by decide +kernel) dX6_mostOf_48 ?_
    exact ex _ _ _ () _ dX6_mostOf_50 rfl (congrArg iI (show (12 : Int) = zMs q from by rcases (show q = 0 ∨ q = 1 ∨ q = 2 ∨ q = 3 ∨ q = 4 ∨ q = 5 by omega) with e9 | e9 | e9 | e9 | e9 | e9 <;> first | (subst e9; rfl) | (exfalso; omega))) rfl
  refine z_tblOut (pc := 1) (tgt := 51) hX (by omega) (by omega) (by decide) dX6_mostOf_1 ?_
  refine z_bipush (pc := 51) hX (z := 100) (by decide +kernel) dX6_mostOf_51 ?_
  exact ex _ _ _ () _ dX6_mostOf_53 rfl (congrArg iI (show (100 : Int) = zMs q from by rcases (show q = 0 ∨ q = 1 ∨ q = 2 ∨ q = 3 ∨ q = 4 ∨ q = 5 by omega) with e9 | e9 | e9 | e9 | e9 | e9 <;> first | (subst e9; rfl) | (exfalso; omega))) rfl
theorem hX6_set_X6 : ∀ w ∈ wsX60, w ∈ wsX6_set := by decide +kernel
theorem hdX6_leastOf : yX6_leastOf.cls ≠ "java/lang/invoke/MethodHandle" ∧ yX6_leastOf.cls ≠ "java/lang/invoke/VarHandle" ∧ (parseMethodDescriptor yX6_leastOf.desc).map (fun d => d.parameters.length) = some 1 := by decide +kernel
theorem hdX6_mostOf : yX6_mostOf.cls ≠ "java/lang/invoke/MethodHandle" ∧ yX6_mostOf.cls ≠ "java/lang/invoke/VarHandle" ∧ (parseMethodDescriptor yX6_mostOf.desc).map (fun d => d.parameters.length) = some 1 := by decide +kernel
theorem kX6_set_f40 : Cond.fieldLink RX6 40 "SignLettersModel" "thrown" "I" ∈ wsX6_set := by decide +kernel
theorem kX6_set_f7 : Cond.fieldLink RX6 7 "SignLettersModel" "s" "[I" ∈ wsX6_set := by decide +kernel
set_option maxHeartbeats 400000 in
set_option maxRecDepth 100000 in
theorem mX6_set_ok (G : ZG) (m : Nat) (s1 : Nat) (s2 : Nat) (s3 : Nat) (s4 : Nat) (m1 : Nat) (m2 : Nat) (m3 : Nat) (m4 : Nat) (l1 : Nat) (l2 : Nat) (th : Int) (sm : Int) (len : Int) (ax : Int) (rm : Int) (hs : Bool) (hh : Int64) (S : Int → Int) (V : Int → Int) (q : Int) (v : Int) (hsm : 0 ≤ sm ∧ sm ≤ 6) (hq : -2147483648 ≤ q ∧ q < 2147483648) (hv : -2147483648 ≤ v ∧ v < 2147483648) (ok1 : 0 ≤ q ∧ q < 6) (ok2 : zLs q ≤ v ∧ v ≤ zMs q) : zMeti yX6_set wsX6_set { frames := 1, cells := 0, slots := 0, locals := 22 } G [.ref m, .int (iI (q)), .int (iI (v))] [(m, .inr (6, [.int (iI (th)), .ref s1, .ref s2, .int (iI (sm)), .ref s3, .int (iI (bI (hs = true))), .ref s4, .int (iI (len)), .ref m1, .ref m2, .ref m3, .ref m4, .int (iI (ax)), .ref l1, .ref l2, .int (iI (rm)), .long (hh)])), (s2, zI G 288 (V)), (s1, zI G 48 (S))] (fun (rr : Int32) (uu : Unit) => rr = iI (S q)) (fun (uu : Unit) => [(m, .inr (6, [.int (iI (0)), .ref s1, .ref s2, .int (iI (pSz sm + 1)), .ref s3, .int (iI (bI (hs = true))), .ref s4, .int (iI (len)), .ref m1, .ref m2, .ref m3, .ref m4, .int (iI (ax)), .ref l1, .ref l2, .int (iI (rm)), .long (hh)])), (s2, zI G 288 (svS V sm S)), (s1, zI G 48 (uZ S q v))]) 0 0 := by
  refine z_meti (cc := cX6_set) (nL := 4) (rt := .int) (by decide +kernel) rfl (Nat.le_of_ble_eq_true rfl) (fun X hX ex => ?_)
  have hX : ZOk G X 4 cX6_set RX6 wsX6_set { frames := 1, cells := 0, slots := 0, locals := 22 } := hX
  show Z G X 4 (0) (0) [(m, .inr (6, [.int (iI (th)), .ref s1, .ref s2, .int (iI (sm)), .ref s3, .int (iI (bI (hs = true))), .ref s4, .int (iI (len)), .ref m1, .ref m2, .ref m3, .ref m4, .int (iI (ax)), .ref l1, .ref l2, .int (iI (rm)), .long (hh)])), (s2, zI G 288 (V)), (s1, zI G 48 (S))] 0 [(0, .ref m), (1, .int (iI (q))), (2, .int (iI (v)))] []
  have hzl := zLs_r q
  have hzm := zMs_r q
  have ok1b : 0 ≤ q ∧ q ≤ 5 := by omega
  refine z_aload_n (pc := 0) hX 0 rfl rfl dX6_set_0 ?_
  refine z_iconst (pc := 1) hX dX6_set_1 ?_
  refine z_put (pc := 2) hX (T := TX6) (C := RX6) (N := 17) (i := 40) (ref := "SignLettersModel") (name := "thrown") (desc := "I") (WS' := [(m, .inr (6, [.int (iI (0)), .ref s1, .ref s2, .int (iI (sm)), .ref s3, .int (iI (bI (hs = true))), .ref s4, .int (iI (len)), .ref m1, .ref m2, .ref m3, .ref m4, .int (iI (ax)), .ref l1, .ref l2, .int (iI (rm)), .long (hh)])), (s2, zI G 288 (V)), (s1, zI G 48 (S))]) tyX6 tyX6_ok nmX6 hX6_set_X6 0 rfl rfl 0 (by decide) kX6_set_f40 ⟨rfl, rfl, rfl⟩ rfl (ty := .int) (by decide +kernel) rfl rfl (Nat.le_of_ble_eq_true rfl) rfl dX6_set_2 ?_
  refine z_iload_n (pc := 5) hX 1 rfl rfl dX6_set_5 ?_
  refine z_iconst (pc := 6) hX dX6_set_6 ?_
  refine z_iconst (pc := 7) hX dX6_set_7 ?_
  refine z_callS_i (pc := 8) (As := [.int (iI (q)), .int (iI (0)), .int (iI (5))]) (rest := []) (wc := []) (wr := [(m, .inr (6, [.int (iI (0)), .ref s1, .ref s2, .int (iI (sm)), .ref s3, .int (iI (bI (hs = true))), .ref s4, .int (iI (len)), .ref m1, .ref m2, .ref m3, .ref m4, .int (iI (ax)), .ref l1, .ref l2, .int (iI (rm)), .long (hh)])), (s2, zI G 288 (V)), (s1, zI G 48 (S))]) hX (mX6_in G (q) (0) (5) (by first | assumption | omega | (clear ex hX; grind [uZ])) (by first | assumption | omega | (clear ex hX; grind [uZ])) (by first | assumption | omega | (clear ex hX; grind [uZ]))) rfl rfl rfl gX6_set_X6_in hdX6_in ⟨Nat.le_of_ble_eq_true rfl, Nat.le_of_ble_eq_true rfl⟩ [] [0, 1, 2] rfl rfl (by decide) (by decide) (by decide) rfl (Nat.le_of_ble_eq_true rfl) ⟨Nat.le_of_ble_eq_true rfl, Nat.le_of_ble_eq_true rfl⟩ dX6_set_8 (fun r_1 u_1 h_1 => ?_)
  subst h_1
  show Z G X 4 (0) (0) [(m, .inr (6, [.int (iI (0)), .ref s1, .ref s2, .int (iI (sm)), .ref s3, .int (iI (bI (hs = true))), .ref s4, .int (iI (len)), .ref m1, .ref m2, .ref m3, .ref m4, .int (iI (ax)), .ref l1, .ref l2, .int (iI (rm)), .long (hh)])), (s2, zI G 288 (V)), (s1, zI G 48 (S))] 11 [(0, .ref m), (1, .int (iI (q))), (2, .int (iI (v)))] [.int (iI (bI (0 ≤ q ∧ q ≤ 5)))]
  refine z_bif_ne (pc := 11) (tgt := 20) hX (by decide) dX6_set_11 (fun c_2 => ?_) (fun c_2 => by first | exact absurd c_2 ok1b | exact absurd ok1b c_2)
  refine z_iload_n (pc := 20) hX 2 rfl rfl dX6_set_20 ?_
  refine z_iload_n (pc := 21) hX 1 rfl rfl dX6_set_21 ?_
  refine z_callS_i (pc := 22) (As := [.int (iI (q))]) (rest := [.int (iI (v))]) (wc := []) (wr := [(m, .inr (6, [.int (iI (0)), .ref s1, .ref s2, .int (iI (sm)), .ref s3, .int (iI (bI (hs = true))), .ref s4, .int (iI (len)), .ref m1, .ref m2, .ref m3, .ref m4, .int (iI (ax)), .ref l1, .ref l2, .int (iI (rm)), .long (hh)])), (s2, zI G 288 (V)), (s1, zI G 48 (S))]) hX (mX6_leastOf G (q) (by first | assumption | omega | (clear ex hX; grind [uZ]))) rfl rfl rfl gX6_set_X6_leastOf hdX6_leastOf ⟨Nat.le_of_ble_eq_true rfl, Nat.le_of_ble_eq_true rfl⟩ [] [0, 1, 2] rfl rfl (by decide) (by decide) (by decide) rfl (Nat.le_of_ble_eq_true rfl) ⟨Nat.le_of_ble_eq_true rfl, Nat.le_of_ble_eq_true rfl⟩ dX6_set_22 (fun r_3 u_3 h_3 => ?_)
  subst h_3
  show Z G X 4 (0) (0) [(m, .inr (6, [.int (iI (0)), .ref s1, .ref s2, .int (iI (sm)), .ref s3, .int (iI (bI (hs = true))), .ref s4, .int (iI (len)), .ref m1, .ref m2, .ref m3, .ref m4, .int (iI (ax)), .ref l1, .ref l2, .int (iI (rm)), .long (hh)])), (s2, zI G 288 (V)), (s1, zI G 48 (S))] 25 [(0, .ref m), (1, .int (iI (q))), (2, .int (iI (v)))] [.int (iI (zLs q)), .int (iI (v))]
  refine z_iload_n (pc := 25) hX 1 rfl rfl dX6_set_25 ?_
  refine z_callS_i (pc := 26) (As := [.int (iI (q))]) (rest := [.int (iI (zLs q)), .int (iI (v))]) (wc := []) (wr := [(m, .inr (6, [.int (iI (0)), .ref s1, .ref s2, .int (iI (sm)), .ref s3, .int (iI (bI (hs = true))), .ref s4, .int (iI (len)), .ref m1, .ref m2, .ref m3, .ref m4, .int (iI (ax)), .ref l1, .ref l2, .int (iI (rm)), .long (hh)])), (s2, zI G 288 (V)), (s1, zI G 48 (S))]) hX (mX6_mostOf G (q) (by first | assumption | omega | (clear ex hX; grind [uZ]))) rfl rfl rfl gX6_set_X6_mostOf hdX6_mostOf ⟨Nat.le_of_ble_eq_true rfl, Nat.le_of_ble_eq_true rfl⟩ [] [0, 1, 2] rfl rfl (by decide) (by decide) (by decide) rfl (Nat.le_of_ble_eq_true rfl) ⟨Nat.le_of_ble_eq_true rfl, Nat.le_of_ble_eq_true rfl⟩ dX6_set_26 (fun r_4 u_4 h_4 => ?_)
  subst h_4
  show Z G X 4 (0) (0) [(m, .inr (6, [.int (iI (0)), .ref s1, .ref s2, .int (iI (sm)), .ref s3, .int (iI (bI (hs = true))), .ref s4, .int (iI (len)), .ref m1, .ref m2, .ref m3, .ref m4, .int (iI (ax)), .ref l1, .ref l2, .int (iI (rm)), .long (hh)])), (s2, zI G 288 (V)), (s1, zI G 48 (S))] 29 [(0, .ref m), (1, .int (iI (q))), (2, .int (iI (v)))] [.int (iI (zMs q)), .int (iI (zLs q)), .int (iI (v))]
  refine z_callS_i (pc := 29) (As := [.int (iI (v)), .int (iI (zLs q)), .int (iI (zMs q))]) (rest := []) (wc := []) (wr := [(m, .inr (6, [.int (iI (0)), .ref s1, .ref s2, .int (iI (sm)), .ref s3, .int (iI (bI (hs = true))), .ref s4, .int (iI (len)), .ref m1, .ref m2, .ref m3, .ref m4, .int (iI (ax)), .ref l1, .ref l2, .int (iI (rm)), .long (hh)])), (s2, zI G 288 (V)), (s1, zI G 48 (S))]) hX (mX6_in G (v) (zLs q) (zMs q) (by first | assumption | omega | (clear ex hX; grind [uZ])) (by first | assumption | omega | (clear ex hX; grind [uZ])) (by first | assumption | omega | (clear ex hX; grind [uZ]))) rfl rfl rfl gX6_set_X6_in hdX6_in ⟨Nat.le_of_ble_eq_true rfl, Nat.le_of_ble_eq_true rfl⟩ [] [0, 1, 2] rfl rfl (by decide) (by decide) (by decide) rfl (Nat.le_of_ble_eq_true rfl) ⟨Nat.le_of_ble_eq_true rfl, Nat.le_of_ble_eq_true rfl⟩ dX6_set_29 (fun r_5 u_5 h_5 => ?_)
  subst h_5
  show Z G X 4 (0) (0) [(m, .inr (6, [.int (iI (0)), .ref s1, .ref s2, .int (iI (sm)), .ref s3, .int (iI (bI (hs = true))), .ref s4, .int (iI (len)), .ref m1, .ref m2, .ref m3, .ref m4, .int (iI (ax)), .ref l1, .ref l2, .int (iI (rm)), .long (hh)])), (s2, zI G 288 (V)), (s1, zI G 48 (S))] 32 [(0, .ref m), (1, .int (iI (q))), (2, .int (iI (v)))] [.int (iI (bI ((zLs q) ≤ v ∧ v ≤ (zMs q))))]
  refine z_bif_ne (pc := 32) (tgt := 41) hX (by decide) dX6_set_32 (fun c_6 => ?_) (fun c_6 => by first | exact absurd c_6 ok2 | exact absurd ok2 c_6)
  refine z_aload_n (pc := 41) hX 0 rfl rfl dX6_set_41 ?_
  refine z_callV_v (pc := 42) (As := []) (rest := []) (wc := [(m, .inr (6, [.int (iI (0)), .ref s1, .ref s2, .int (iI (sm)), .ref s3, .int (iI (bI (hs = true))), .ref s4, .int (iI (len)), .ref m1, .ref m2, .ref m3, .ref m4, .int (iI (ax)), .ref l1, .ref l2, .int (iI (rm)), .long (hh)])), (s2, zI G 288 (V)), (s1, zI G 48 (S))]) (wr := []) hX (mX6_saves G (m) (s1) (s2) (s3) (s4) (m1) (m2) (m3) (m4) (l1) (l2) (0) (sm) (len) (ax) (rm) (hs) (hh) (S) (V) (by first | assumption | omega | (clear ex hX; grind [uZ]))) rfl rfl rfl (C := RX6) gX6_set_X6_saves ⟨rfl, hdX6_saves⟩ (T := TX6) (N := 17) 0 rfl rfl ⟨Nat.le_of_ble_eq_true rfl, Nat.le_of_ble_eq_true rfl⟩ [0, 1, 2] [] rfl rfl (by decide) (by decide) (by decide) rfl (Nat.le_of_ble_eq_true rfl) ⟨Nat.le_of_ble_eq_true rfl, Nat.le_of_ble_eq_true rfl⟩ dX6_set_42 (fun u_7 h_7 => ?_)
  show Z G X 4 (0) (0) [(m, .inr (6, [.int (iI (0)), .ref s1, .ref s2, .int (iI (pSz sm + 1)), .ref s3, .int (iI (bI (hs = true))), .ref s4, .int (iI (len)), .ref m1, .ref m2, .ref m3, .ref m4, .int (iI (ax)), .ref l1, .ref l2, .int (iI (rm)), .long (hh)])), (s2, zI G 288 (svS V sm S)), (s1, zI G 48 (S))] 45 [(0, .ref m), (1, .int (iI (q))), (2, .int (iI (v)))] []
  refine z_aload_n (pc := 45) hX 0 rfl rfl dX6_set_45 ?_
  refine z_get (pc := 46) hX (T := TX6) (C := RX6) (N := 17) (i := 7) (ref := "SignLettersModel") (name := "s") (desc := "[I") hX6_set_X6 0 rfl rfl 1 (by decide) kX6_set_f7 ⟨rfl, rfl, rfl⟩ (v := .ref s1) rfl dX6_set_46 ?_
  refine z_iload_n (pc := 49) hX 1 rfl rfl dX6_set_49 ?_
  refine z_iald (pc := 50) hX (N := 48) (F := S) 2 rfl (by omega) (by omega) dX6_set_50 ?_
  refine z_istore_n (pc := 51) hX (loc' := [(3, .int (iI (S q))), (0, .ref m), (1, .int (iI (q))), (2, .int (iI (v)))]) rfl (by decide) rfl dX6_set_51 ?_
  refine z_aload_n (pc := 52) hX 1 rfl rfl dX6_set_52 ?_
  refine z_get (pc := 53) hX (T := TX6) (C := RX6) (N := 17) (i := 7) (ref := "SignLettersModel") (name := "s") (desc := "[I") hX6_set_X6 0 rfl rfl 1 (by decide) kX6_set_f7 ⟨rfl, rfl, rfl⟩ (v := .ref s1) rfl dX6_set_53 ?_
  refine z_iload_n (pc := 56) hX 2 rfl rfl dX6_set_56 ?_
  refine z_iload_n (pc := 57) hX 3 rfl rfl dX6_set_57 ?_
  refine z_iast (pc := 58) hX (N := 48) (F := S) (WS' := [(m, .inr (6, [.int (iI (0)), .ref s1, .ref s2, .int (iI (pSz sm + 1)), .ref s3, .int (iI (bI (hs = true))), .ref s4, .int (iI (len)), .ref m1, .ref m2, .ref m3, .ref m4, .int (iI (ax)), .ref l1, .ref l2, .int (iI (rm)), .long (hh)])), (s2, zI G 288 (svS V sm S)), (s1, zI G 48 (uZ S q v))]) 2 rfl (by omega) (by omega) rfl dX6_set_58 ?_
  refine z_iload_n (pc := 59) hX 0 rfl rfl dX6_set_59 ?_
  exact ex _ _ _ () _ dX6_set_60 rfl rfl rfl
set_option maxHeartbeats 400000 in
set_option maxRecDepth 100000 in
theorem mX6_set_no (G : ZG) (m : Nat) (s1 : Nat) (s2 : Nat) (s3 : Nat) (s4 : Nat) (m1 : Nat) (m2 : Nat) (m3 : Nat) (m4 : Nat) (l1 : Nat) (l2 : Nat) (th : Int) (sm : Int) (len : Int) (ax : Int) (rm : Int) (hs : Bool) (hh : Int64) (S : Int → Int) (q : Int) (v : Int) (hq : -2147483648 ≤ q ∧ q < 2147483648) (hv : -2147483648 ≤ v ∧ v < 2147483648) (hbad : ¬ ((0 ≤ q ∧ q < 6) ∧ (zLs q ≤ v ∧ v ≤ zMs q))) : zMeti yX6_set wsX6_set { frames := 1, cells := 0, slots := 0, locals := 22 } G [.ref m, .int (iI (q)), .int (iI (v))] [(m, .inr (6, [.int (iI (th)), .ref s1, .ref s2, .int (iI (sm)), .ref s3, .int (iI (bI (hs = true))), .ref s4, .int (iI (len)), .ref m1, .ref m2, .ref m3, .ref m4, .int (iI (ax)), .ref l1, .ref l2, .int (iI (rm)), .long (hh)])), (s1, zI G 48 (S))] (fun (rr : Int32) (uu : Unit) => rr = iI (0)) (fun (uu : Unit) => [(m, .inr (6, [.int (iI (if 0 ≤ q ∧ q < 6 then (if zLs q ≤ v ∧ v ≤ zMs q then (0) else 2) else 1)), .ref s1, .ref s2, .int (iI (sm)), .ref s3, .int (iI (bI (hs = true))), .ref s4, .int (iI (len)), .ref m1, .ref m2, .ref m3, .ref m4, .int (iI (ax)), .ref l1, .ref l2, .int (iI (rm)), .long (hh)])), (s1, zI G 48 (S))]) 0 0 := by
  refine z_meti (cc := cX6_set) (nL := 4) (rt := .int) (by decide +kernel) rfl (Nat.le_of_ble_eq_true rfl) (fun X hX ex => ?_)
  have hX : ZOk G X 4 cX6_set RX6 wsX6_set { frames := 1, cells := 0, slots := 0, locals := 22 } := hX
  show Z G X 4 (0) (0) [(m, .inr (6, [.int (iI (th)), .ref s1, .ref s2, .int (iI (sm)), .ref s3, .int (iI (bI (hs = true))), .ref s4, .int (iI (len)), .ref m1, .ref m2, .ref m3, .ref m4, .int (iI (ax)), .ref l1, .ref l2, .int (iI (rm)), .long (hh)])), (s1, zI G 48 (S))] 0 [(0, .ref m), (1, .int (iI (q))), (2, .int (iI (v)))] []
  have hzl := zLs_r q
  have hzm := zMs_r q
  refine z_aload_n (pc := 0) hX 0 rfl rfl dX6_set_0 ?_
  refine z_iconst (pc := 1) hX dX6_set_1 ?_
  refine z_put (pc := 2) hX (T := TX6) (C := RX6) (N := 17) (i := 40) (ref := "SignLettersModel") (name := "thrown") (desc := "I") (WS' := [(m, .inr (6, [.int (iI (0)), .ref s1, .ref s2, .int (iI (sm)), .ref s3, .int (iI (bI (hs = true))), .ref s4, .int (iI (len)), .ref m1, .ref m2, .ref m3, .ref m4, .int (iI (ax)), .ref l1, .ref l2, .int (iI (rm)), .long (hh)])), (s1, zI G 48 (S))]) tyX6 tyX6_ok nmX6 hX6_set_X6 0 rfl rfl 0 (by decide) kX6_set_f40 ⟨rfl, rfl, rfl⟩ rfl (ty := .int) (by decide +kernel) rfl rfl (Nat.le_of_ble_eq_true rfl) rfl dX6_set_2 ?_
  refine z_iload_n (pc := 5) hX 1 rfl rfl dX6_set_5 ?_
  refine z_iconst (pc := 6) hX dX6_set_6 ?_
  refine z_iconst (pc := 7) hX dX6_set_7 ?_
  refine z_callS_i (pc := 8) (As := [.int (iI (q)), .int (iI (0)), .int (iI (5))]) (rest := []) (wc := []) (wr := [(m, .inr (6, [.int (iI (0)), .ref s1, .ref s2, .int (iI (sm)), .ref s3, .int (iI (bI (hs = true))), .ref s4, .int (iI (len)), .ref m1, .ref m2, .ref m3, .ref m4, .int (iI (ax)), .ref l1, .ref l2, .int (iI (rm)), .long (hh)])), (s1, zI G 48 (S))]) hX (mX6_in G (q) (0) (5) (by first | assumption | omega | (clear ex hX; grind [uZ])) (by first | assumption | omega | (clear ex hX; grind [uZ])) (by first | assumption | omega | (clear ex hX; grind [uZ]))) rfl rfl rfl gX6_set_X6_in hdX6_in ⟨Nat.le_of_ble_eq_true rfl, Nat.le_of_ble_eq_true rfl⟩ [] [0, 1] rfl rfl (by decide) (by decide) (by decide) rfl (Nat.le_of_ble_eq_true rfl) ⟨Nat.le_of_ble_eq_true rfl, Nat.le_of_ble_eq_true rfl⟩ dX6_set_8 (fun r_1 u_1 h_1 => ?_)
  subst h_1
  show Z G X 4 (0) (0) [(m, .inr (6, [.int (iI (0)), .ref s1, .ref s2, .int (iI (sm)), .ref s3, .int (iI (bI (hs = true))), .ref s4, .int (iI (len)), .ref m1, .ref m2, .ref m3, .ref m4, .int (iI (ax)), .ref l1, .ref l2, .int (iI (rm)), .long (hh)])), (s1, zI G 48 (S))] 11 [(0, .ref m), (1, .int (iI (q))), (2, .int (iI (v)))] [.int (iI (bI (0 ≤ q ∧ q ≤ 5)))]
  refine z_bif_ne (pc := 11) (tgt := 20) hX (by decide) dX6_set_11 (fun c_2 => ?_) (fun c_2 => ?_)
  · refine z_iload_n (pc := 20) hX 2 rfl rfl dX6_set_20 ?_
    refine z_iload_n (pc := 21) hX 1 rfl rfl dX6_set_21 ?_
    refine z_callS_i (pc := 22) (As := [.int (iI (q))]) (rest := [.int (iI (v))]) (wc := []) (wr := [(m, .inr (6, [.int (iI (0)), .ref s1, .ref s2, .int (iI (sm)), .ref s3, .int (iI (bI (hs = true))), .ref s4, .int (iI (len)), .ref m1, .ref m2, .ref m3, .ref m4, .int (iI (ax)), .ref l1, .ref l2, .int (iI (rm)), .long (hh)])), (s1, zI G 48 (S))]) hX (mX6_leastOf G (q) (by first | assumption | omega | (clear ex hX; grind [uZ]))) rfl rfl rfl gX6_set_X6_leastOf hdX6_leastOf ⟨Nat.le_of_ble_eq_true rfl, Nat.le_of_ble_eq_true rfl⟩ [] [0, 1] rfl rfl (by decide) (by decide) (by decide) rfl (Nat.le_of_ble_eq_true rfl) ⟨Nat.le_of_ble_eq_true rfl, Nat.le_of_ble_eq_true rfl⟩ dX6_set_22 (fun r_3 u_3 h_3 => ?_)
    subst h_3
    show Z G X 4 (0) (0) [(m, .inr (6, [.int (iI (0)), .ref s1, .ref s2, .int (iI (sm)), .ref s3, .int (iI (bI (hs = true))), .ref s4, .int (iI (len)), .ref m1, .ref m2, .ref m3, .ref m4, .int (iI (ax)), .ref l1, .ref l2, .int (iI (rm)), .long (hh)])), (s1, zI G 48 (S))] 25 [(0, .ref m), (1, .int (iI (q))), (2, .int (iI (v)))] [.int (iI (zLs q)), .int (iI (v))]
    refine z_iload_n (pc := 25) hX 1 rfl rfl dX6_set_25 ?_
    refine z_callS_i (pc := 26) (As := [.int (iI (q))]) (rest := [.int (iI (zLs q)), .int (iI (v))]) (wc := []) (wr := [(m, .inr (6, [.int (iI (0)), .ref s1, .ref s2, .int (iI (sm)), .ref s3, .int (iI (bI (hs = true))), .ref s4, .int (iI (len)), .ref m1, .ref m2, .ref m3, .ref m4, .int (iI (ax)), .ref l1, .ref l2, .int (iI (rm)), .long (hh)])), (s1, zI G 48 (S))]) hX (mX6_mostOf G (q) (by first | assumption | omega | (clear ex hX; grind [uZ]))) rfl rfl rfl gX6_set_X6_mostOf hdX6_mostOf ⟨Nat.le_of_ble_eq_true rfl, Nat.le_of_ble_eq_true rfl⟩ [] [0, 1] rfl rfl (by decide) (by decide) (by decide) rfl (Nat.le_of_ble_eq_true rfl) ⟨Nat.le_of_ble_eq_true rfl, Nat.le_of_ble_eq_true rfl⟩ dX6_set_26 (fun r_4 u_4 h_4 => ?_)
    subst h_4
    show Z G X 4 (0) (0) [(m, .inr (6, [.int (iI (0)), .ref s1, .ref s2, .int (iI (sm)), .ref s3, .int (iI (bI (hs = true))), .ref s4, .int (iI (len)), .ref m1, .ref m2, .ref m3, .ref m4, .int (iI (ax)), .ref l1, .ref l2, .int (iI (rm)), .long (hh)])), (s1, zI G 48 (S))] 29 [(0, .ref m), (1, .int (iI (q))), (2, .int (iI (v)))] [.int (iI (zMs q)), .int (iI (zLs q)), .int (iI (v))]
    refine z_callS_i (pc := 29) (As := [.int (iI (v)), .int (iI (zLs q)), .int (iI (zMs q))]) (rest := []) (wc := []) (wr := [(m, .inr (6, [.int (iI (0)), .ref s1, .ref s2, .int (iI (sm)), .ref s3, .int (iI (bI (hs = true))), .ref s4, .int (iI (len)), .ref m1, .ref m2, .ref m3, .ref m4, .int (iI (ax)), .ref l1, .ref l2, .int (iI (rm)), .long (hh)])), (s1, zI G 48 (S))]) hX (mX6_in G (v) (zLs q) (zMs q) (by first | assumption | omega | (clear ex hX; grind [uZ])) (by first | assumption | omega | (clear ex hX; grind [uZ])) (by first | assumption | omega | (clear ex hX; grind [uZ]))) rfl rfl rfl gX6_set_X6_in hdX6_in ⟨Nat.le_of_ble_eq_true rfl, Nat.le_of_ble_eq_true rfl⟩ [] [0, 1] rfl rfl (by decide) (by decide) (by decide) rfl (Nat.le_of_ble_eq_true rfl) ⟨Nat.le_of_ble_eq_true rfl, Nat.le_of_ble_eq_true rfl⟩ dX6_set_29 (fun r_5 u_5 h_5 => ?_)
    subst h_5
    show Z G X 4 (0) (0) [(m, .inr (6, [.int (iI (0)), .ref s1, .ref s2, .int (iI (sm)), .ref s3, .int (iI (bI (hs = true))), .ref s4, .int (iI (len)), .ref m1, .ref m2, .ref m3, .ref m4, .int (iI (ax)), .ref l1, .ref l2, .int (iI (rm)), .long (hh)])), (s1, zI G 48 (S))] 32 [(0, .ref m), (1, .int (iI (q))), (2, .int (iI (v)))] [.int (iI (bI ((zLs q) ≤ v ∧ v ≤ (zMs q))))]
    refine z_bif_ne (pc := 32) (tgt := 41) hX (by decide) dX6_set_32 (fun c_6 => ?_) (fun c_6 => ?_)
    · exfalso; omega
    · refine z_aload_n (pc := 35) hX 0 rfl rfl dX6_set_35 ?_
      refine z_iconst (pc := 36) hX dX6_set_36 ?_
      refine z_callV_i (pc := 37) (As := [.int (iI (2))]) (rest := []) (wc := [(m, .inr (6, [.int (iI (0)), .ref s1, .ref s2, .int (iI (sm)), .ref s3, .int (iI (bI (hs = true))), .ref s4, .int (iI (len)), .ref m1, .ref m2, .ref m3, .ref m4, .int (iI (ax)), .ref l1, .ref l2, .int (iI (rm)), .long (hh)]))]) (wr := [(s1, zI G 48 (S))]) hX (mX6_fails G (m) (s1) (s2) (s3) (s4) (m1) (m2) (m3) (m4) (l1) (l2) (0) (sm) (len) (ax) (rm) (hs) (hh) (S) (2) ) rfl rfl rfl (C := RX6) gX6_set_X6_fails ⟨rfl, hdX6_fails⟩ (T := TX6) (N := 17) 0 rfl rfl ⟨Nat.le_of_ble_eq_true rfl, Nat.le_of_ble_eq_true rfl⟩ [0] [1] rfl rfl (by decide) (by decide) (by decide) rfl (Nat.le_of_ble_eq_true rfl) ⟨Nat.le_of_ble_eq_true rfl, Nat.le_of_ble_eq_true rfl⟩ dX6_set_37 (fun r_7 u_7 h_7 => ?_)
      subst h_7
      show Z G X 4 (0) (0) [(s1, zI G 48 (S)), (m, .inr (6, [.int (iI (2)), .ref s1, .ref s2, .int (iI (sm)), .ref s3, .int (iI (bI (hs = true))), .ref s4, .int (iI (len)), .ref m1, .ref m2, .ref m3, .ref m4, .int (iI (ax)), .ref l1, .ref l2, .int (iI (rm)), .long (hh)]))] 40 [(0, .ref m), (1, .int (iI (q))), (2, .int (iI (v)))] [.int (iI (0))]
      refine z_at [0, 1, 2] [1, 0] (loc' := [(0, .ref m), (1, .int (iI (q))), (2, .int (iI (v)))]) (WS' := [(m, .inr (6, [.int (iI (2)), .ref s1, .ref s2, .int (iI (sm)), .ref s3, .int (iI (bI (hs = true))), .ref s4, .int (iI (len)), .ref m1, .ref m2, .ref m3, .ref m4, .int (iI (ax)), .ref l1, .ref l2, .int (iI (rm)), .long (hh)])), (s1, zI G 48 (S))]) rfl (by decide) rfl ?_
      refine (congrArg (fun z_ : Int => Z G X 4 (0) (0) [(m, .inr (6, [.int (iI (z_)), .ref s1, .ref s2, .int (iI (sm)), .ref s3, .int (iI (bI (hs = true))), .ref s4, .int (iI (len)), .ref m1, .ref m2, .ref m3, .ref m4, .int (iI (ax)), .ref l1, .ref l2, .int (iI (rm)), .long (hh)])), (s1, zI G 48 (S))] 40 [(0, .ref m), (1, .int (iI (q))), (2, .int (iI (v)))] [.int (iI (0))]) (show (2 : Int) = if 0 ≤ q ∧ q < 6 then (if zLs q ≤ v ∧ v ≤ zMs q then (0) else 2) else 1 from by first | rfl | (rw [if_neg (by omega)]; done) | (rw [if_pos (by omega), if_neg (by omega)]; done) | (rw [if_pos (by omega), if_pos (by omega), if_neg (by omega)]; done) | (rw [if_pos (by omega), if_pos (by omega), if_pos (by omega)]; done))).mpr ?_
      exact ex _ _ _ () _ dX6_set_40 rfl rfl rfl
  · refine z_aload_n (pc := 14) hX 0 rfl rfl dX6_set_14 ?_
    refine z_iconst (pc := 15) hX dX6_set_15 ?_
    refine z_callV_i (pc := 16) (As := [.int (iI (1))]) (rest := []) (wc := [(m, .inr (6, [.int (iI (0)), .ref s1, .ref s2, .int (iI (sm)), .ref s3, .int (iI (bI (hs = true))), .ref s4, .int (iI (len)), .ref m1, .ref m2, .ref m3, .ref m4, .int (iI (ax)), .ref l1, .ref l2, .int (iI (rm)), .long (hh)]))]) (wr := [(s1, zI G 48 (S))]) hX (mX6_fails G (m) (s1) (s2) (s3) (s4) (m1) (m2) (m3) (m4) (l1) (l2) (0) (sm) (len) (ax) (rm) (hs) (hh) (S) (1) ) rfl rfl rfl (C := RX6) gX6_set_X6_fails ⟨rfl, hdX6_fails⟩ (T := TX6) (N := 17) 0 rfl rfl ⟨Nat.le_of_ble_eq_true rfl, Nat.le_of_ble_eq_true rfl⟩ [0] [1] rfl rfl (by decide) (by decide) (by decide) rfl (Nat.le_of_ble_eq_true rfl) ⟨Nat.le_of_ble_eq_true rfl, Nat.le_of_ble_eq_true rfl⟩ dX6_set_16 (fun r_8 u_8 h_8 => ?_)
    subst h_8
    show Z G X 4 (0) (0) [(s1, zI G 48 (S)), (m, .inr (6, [.int (iI (1)), .ref s1, .ref s2, .int (iI (sm)), .ref s3, .int (iI (bI (hs = true))), .ref s4, .int (iI (len)), .ref m1, .ref m2, .ref m3, .ref m4, .int (iI (ax)), .ref l1, .ref l2, .int (iI (rm)), .long (hh)]))] 19 [(0, .ref m), (1, .int (iI (q))), (2, .int (iI (v)))] [.int (iI (0))]
    refine z_at [0, 1, 2] [1, 0] (loc' := [(0, .ref m), (1, .int (iI (q))), (2, .int (iI (v)))]) (WS' := [(m, .inr (6, [.int (iI (1)), .ref s1, .ref s2, .int (iI (sm)), .ref s3, .int (iI (bI (hs = true))), .ref s4, .int (iI (len)), .ref m1, .ref m2, .ref m3, .ref m4, .int (iI (ax)), .ref l1, .ref l2, .int (iI (rm)), .long (hh)])), (s1, zI G 48 (S))]) rfl (by decide) rfl ?_
    refine (congrArg (fun z_ : Int => Z G X 4 (0) (0) [(m, .inr (6, [.int (iI (z_)), .ref s1, .ref s2, .int (iI (sm)), .ref s3, .int (iI (bI (hs = true))), .ref s4, .int (iI (len)), .ref m1, .ref m2, .ref m3, .ref m4, .int (iI (ax)), .ref l1, .ref l2, .int (iI (rm)), .long (hh)])), (s1, zI G 48 (S))] 19 [(0, .ref m), (1, .int (iI (q))), (2, .int (iI (v)))] [.int (iI (0))]) (show (1 : Int) = if 0 ≤ q ∧ q < 6 then (if zLs q ≤ v ∧ v ≤ zMs q then (0) else 2) else 1 from by first | rfl | (rw [if_neg (by omega)]; done) | (rw [if_pos (by omega), if_neg (by omega)]; done) | (rw [if_pos (by omega), if_pos (by omega), if_neg (by omega)]; done) | (rw [if_pos (by omega), if_pos (by omega), if_pos (by omega)]; done))).mpr ?_
    exact ex _ _ _ () _ dX6_set_19 rfl rfl rfl
theorem hX6_append_X6 : ∀ w ∈ wsX60, w ∈ wsX6_append := by decide +kernel
theorem kX6_append_f117 : Cond.fieldLink RX6 117 "SignLettersModel" "length" "I" ∈ wsX6_append := by decide +kernel
theorem kX6_append_f19 : Cond.fieldLink RX6 19 "SignLettersModel" "buffer" "[I" ∈ wsX6_append := by decide +kernel
theorem kX6_append_f40 : Cond.fieldLink RX6 40 "SignLettersModel" "thrown" "I" ∈ wsX6_append := by decide +kernel
set_option maxHeartbeats 400000 in
set_option maxRecDepth 100000 in
theorem mX6_append_ok (G : ZG) (m : Nat) (s1 : Nat) (s2 : Nat) (s3 : Nat) (s4 : Nat) (m1 : Nat) (m2 : Nat) (m3 : Nat) (m4 : Nat) (l1 : Nat) (l2 : Nat) (th : Int) (sm : Int) (len : Int) (ax : Int) (rm : Int) (hs : Bool) (hh : Int64) (S : Int → Int) (C : Int → Int) (v : Int) (hlen : 0 ≤ len ∧ len ≤ 60) (hv : -2147483648 ≤ v ∧ v < 2147483648) (ok1 : 33 ≤ v ∧ v ≤ 126) (ok2 : len < 60) : zMeti yX6_append wsX6_append { frames := 1, cells := 0, slots := 0, locals := 22 } G [.ref m, .int (iI (v))] [(m, .inr (6, [.int (iI (th)), .ref s1, .ref s2, .int (iI (sm)), .ref s3, .int (iI (bI (hs = true))), .ref s4, .int (iI (len)), .ref m1, .ref m2, .ref m3, .ref m4, .int (iI (ax)), .ref l1, .ref l2, .int (iI (rm)), .long (hh)])), (s4, zI G 60 (C))] (fun (rr : Int32) (uu : Unit) => rr = iI (len + 1)) (fun (uu : Unit) => [(m, .inr (6, [.int (iI (0)), .ref s1, .ref s2, .int (iI (sm)), .ref s3, .int (iI (bI (hs = true))), .ref s4, .int (iI (len + 1)), .ref m1, .ref m2, .ref m3, .ref m4, .int (iI (ax)), .ref l1, .ref l2, .int (iI (rm)), .long (hh)])), (s4, zI G 60 (uZ C len v))]) 0 0 := by
  refine z_meti (cc := cX6_append) (nL := 2) (rt := .int) (by decide +kernel) rfl (Nat.le_of_ble_eq_true rfl) (fun X hX ex => ?_)
  have hX : ZOk G X 2 cX6_append RX6 wsX6_append { frames := 1, cells := 0, slots := 0, locals := 22 } := hX
  show Z G X 2 (0) (0) [(m, .inr (6, [.int (iI (th)), .ref s1, .ref s2, .int (iI (sm)), .ref s3, .int (iI (bI (hs = true))), .ref s4, .int (iI (len)), .ref m1, .ref m2, .ref m3, .ref m4, .int (iI (ax)), .ref l1, .ref l2, .int (iI (rm)), .long (hh)])), (s4, zI G 60 (C))] 0 [(0, .ref m), (1, .int (iI (v)))] []
  refine z_aload_n (pc := 0) hX 0 rfl rfl dX6_append_0 ?_
  refine z_iconst (pc := 1) hX dX6_append_1 ?_
  refine z_put (pc := 2) hX (T := TX6) (C := RX6) (N := 17) (i := 40) (ref := "SignLettersModel") (name := "thrown") (desc := "I") (WS' := [(m, .inr (6, [.int (iI (0)), .ref s1, .ref s2, .int (iI (sm)), .ref s3, .int (iI (bI (hs = true))), .ref s4, .int (iI (len)), .ref m1, .ref m2, .ref m3, .ref m4, .int (iI (ax)), .ref l1, .ref l2, .int (iI (rm)), .long (hh)])), (s4, zI G 60 (C))]) tyX6 tyX6_ok nmX6 hX6_append_X6 0 rfl rfl 0 (by decide) kX6_append_f40 ⟨rfl, rfl, rfl⟩ rfl (ty := .int) (by decide +kernel) rfl rfl (Nat.le_of_ble_eq_true rfl) rfl dX6_append_2 ?_
  refine z_iload_n (pc := 5) hX 1 rfl rfl dX6_append_5 ?_
  refine z_bipush (pc := 6) hX (z := 33) (by decide +kernel) dX6_append_6 ?_
  refine z_bipush (pc := 8) hX (z := 126) (by decide +kernel) dX6_append_8 ?_
  refine z_callS_i (pc := 10) (As := [.int (iI (v)), .int (iI (33)), .int (iI (126))]) (rest := []) (wc := []) (wr := [(m, .inr (6, [.int (iI (0)), .ref s1, .ref s2, .int (iI (sm)), .ref s3, .int (iI (bI (hs = true))), .ref s4, .int (iI (len)), .ref m1, .ref m2, .ref m3, .ref m4, .int (iI (ax)), .ref l1, .ref l2, .int (iI (rm)), .long (hh)])), (s4, zI G 60 (C))]) hX (mX6_in G (v) (33) (126) (by first | assumption | omega | (clear ex hX; grind [uZ])) (by first | assumption | omega | (clear ex hX; grind [uZ])) (by first | assumption | omega | (clear ex hX; grind [uZ]))) rfl rfl rfl gX6_append_X6_in hdX6_in ⟨Nat.le_of_ble_eq_true rfl, Nat.le_of_ble_eq_true rfl⟩ [] [0, 1] rfl rfl (by decide) (by decide) (by decide) rfl (Nat.le_of_ble_eq_true rfl) ⟨Nat.le_of_ble_eq_true rfl, Nat.le_of_ble_eq_true rfl⟩ dX6_append_10 (fun r_1 u_1 h_1 => ?_)
  subst h_1
  show Z G X 2 (0) (0) [(m, .inr (6, [.int (iI (0)), .ref s1, .ref s2, .int (iI (sm)), .ref s3, .int (iI (bI (hs = true))), .ref s4, .int (iI (len)), .ref m1, .ref m2, .ref m3, .ref m4, .int (iI (ax)), .ref l1, .ref l2, .int (iI (rm)), .long (hh)])), (s4, zI G 60 (C))] 13 [(0, .ref m), (1, .int (iI (v)))] [.int (iI (bI (33 ≤ v ∧ v ≤ 126)))]
  refine z_bif_ne (pc := 13) (tgt := 22) hX (by decide) dX6_append_13 (fun c_2 => ?_) (fun c_2 => by first | exact absurd c_2 ok1 | exact absurd ok1 c_2)
  refine z_aload_n (pc := 22) hX 0 rfl rfl dX6_append_22 ?_
  refine z_get (pc := 23) hX (T := TX6) (C := RX6) (N := 17) (i := 117) (ref := "SignLettersModel") (name := "length") (desc := "I") hX6_append_X6 0 rfl rfl 7 (by decide) kX6_append_f117 ⟨rfl, rfl, rfl⟩ (v := .int (iI (len))) rfl dX6_append_23 ?_
  refine z_bipush (pc := 26) hX (z := 60) (by decide +kernel) dX6_append_26 ?_
  refine z_icmp_ne (pc := 28) (tgt := 37) hX (by decide) (by omega) (by omega) dX6_append_28 (fun c_3 => ?_) (fun c_3 => absurd c_3 (by first | omega | (clear ex hX; grind [uZ])))
  refine z_aload_n (pc := 37) hX 0 rfl rfl dX6_append_37 ?_
  refine z_get (pc := 38) hX (T := TX6) (C := RX6) (N := 17) (i := 19) (ref := "SignLettersModel") (name := "buffer") (desc := "[I") hX6_append_X6 0 rfl rfl 6 (by decide) kX6_append_f19 ⟨rfl, rfl, rfl⟩ (v := .ref s4) rfl dX6_append_38 ?_
  refine z_aload_n (pc := 41) hX 0 rfl rfl dX6_append_41 ?_
  refine z_get (pc := 42) hX (T := TX6) (C := RX6) (N := 17) (i := 117) (ref := "SignLettersModel") (name := "length") (desc := "I") hX6_append_X6 0 rfl rfl 7 (by decide) kX6_append_f117 ⟨rfl, rfl, rfl⟩ (v := .int (iI (len))) rfl dX6_append_42 ?_
  refine z_iload_n (pc := 45) hX 1 rfl rfl dX6_append_45 ?_
  refine z_iast (pc := 46) hX (N := 60) (F := C) (WS' := [(m, .inr (6, [.int (iI (0)), .ref s1, .ref s2, .int (iI (sm)), .ref s3, .int (iI (bI (hs = true))), .ref s4, .int (iI (len)), .ref m1, .ref m2, .ref m3, .ref m4, .int (iI (ax)), .ref l1, .ref l2, .int (iI (rm)), .long (hh)])), (s4, zI G 60 (uZ C len v))]) 1 rfl (by omega) (by omega) rfl dX6_append_46 ?_
  refine z_aload_n (pc := 47) hX 0 rfl rfl dX6_append_47 ?_
  refine z_dup (pc := 48) hX rfl dX6_append_48 ?_
  refine z_get (pc := 49) hX (T := TX6) (C := RX6) (N := 17) (i := 117) (ref := "SignLettersModel") (name := "length") (desc := "I") hX6_append_X6 0 rfl rfl 7 (by decide) kX6_append_f117 ⟨rfl, rfl, rfl⟩ (v := .int (iI (len))) rfl dX6_append_49 ?_
  refine z_iconst (pc := 52) hX dX6_append_52 ?_
  refine z_iadd (pc := 53) hX dX6_append_53 ?_
  refine z_put (pc := 54) hX (T := TX6) (C := RX6) (N := 17) (i := 117) (ref := "SignLettersModel") (name := "length") (desc := "I") (WS' := [(m, .inr (6, [.int (iI (0)), .ref s1, .ref s2, .int (iI (sm)), .ref s3, .int (iI (bI (hs = true))), .ref s4, .int (iI (len + 1)), .ref m1, .ref m2, .ref m3, .ref m4, .int (iI (ax)), .ref l1, .ref l2, .int (iI (rm)), .long (hh)])), (s4, zI G 60 (uZ C len v))]) tyX6 tyX6_ok nmX6 hX6_append_X6 0 rfl rfl 7 (by decide) kX6_append_f117 ⟨rfl, rfl, rfl⟩ rfl (ty := .int) (by decide +kernel) rfl rfl (Nat.le_of_ble_eq_true rfl) rfl dX6_append_54 ?_
  refine z_aload_n (pc := 57) hX 0 rfl rfl dX6_append_57 ?_
  refine z_get (pc := 58) hX (T := TX6) (C := RX6) (N := 17) (i := 117) (ref := "SignLettersModel") (name := "length") (desc := "I") hX6_append_X6 0 rfl rfl 7 (by decide) kX6_append_f117 ⟨rfl, rfl, rfl⟩ (v := .int (iI (len + 1))) rfl dX6_append_58 ?_
  exact ex _ _ _ () _ dX6_append_61 rfl rfl rfl
set_option maxHeartbeats 400000 in
set_option maxRecDepth 100000 in
theorem mX6_append_no (G : ZG) (m : Nat) (s1 : Nat) (s2 : Nat) (s3 : Nat) (s4 : Nat) (m1 : Nat) (m2 : Nat) (m3 : Nat) (m4 : Nat) (l1 : Nat) (l2 : Nat) (th : Int) (sm : Int) (len : Int) (ax : Int) (rm : Int) (hs : Bool) (hh : Int64) (S : Int → Int) (v : Int) (hlen : 0 ≤ len ∧ len ≤ 60) (hv : -2147483648 ≤ v ∧ v < 2147483648) (hbad : ¬ ((33 ≤ v ∧ v ≤ 126) ∧ (len < 60))) : zMeti yX6_append wsX6_append { frames := 1, cells := 0, slots := 0, locals := 22 } G [.ref m, .int (iI (v))] [(m, .inr (6, [.int (iI (th)), .ref s1, .ref s2, .int (iI (sm)), .ref s3, .int (iI (bI (hs = true))), .ref s4, .int (iI (len)), .ref m1, .ref m2, .ref m3, .ref m4, .int (iI (ax)), .ref l1, .ref l2, .int (iI (rm)), .long (hh)]))] (fun (rr : Int32) (uu : Unit) => rr = iI (0)) (fun (uu : Unit) => [(m, .inr (6, [.int (iI (if 33 ≤ v ∧ v ≤ 126 then (if len < 60 then (0) else 2) else 1)), .ref s1, .ref s2, .int (iI (sm)), .ref s3, .int (iI (bI (hs = true))), .ref s4, .int (iI (len)), .ref m1, .ref m2, .ref m3, .ref m4, .int (iI (ax)), .ref l1, .ref l2, .int (iI (rm)), .long (hh)]))]) 0 0 := by
  refine z_meti (cc := cX6_append) (nL := 2) (rt := .int) (by decide +kernel) rfl (Nat.le_of_ble_eq_true rfl) (fun X hX ex => ?_)
  have hX : ZOk G X 2 cX6_append RX6 wsX6_append { frames := 1, cells := 0, slots := 0, locals := 22 } := hX
  show Z G X 2 (0) (0) [(m, .inr (6, [.int (iI (th)), .ref s1, .ref s2, .int (iI (sm)), .ref s3, .int (iI (bI (hs = true))), .ref s4, .int (iI (len)), .ref m1, .ref m2, .ref m3, .ref m4, .int (iI (ax)), .ref l1, .ref l2, .int (iI (rm)), .long (hh)]))] 0 [(0, .ref m), (1, .int (iI (v)))] []
  refine z_aload_n (pc := 0) hX 0 rfl rfl dX6_append_0 ?_
  refine z_iconst (pc := 1) hX dX6_append_1 ?_
  refine z_put (pc := 2) hX (T := TX6) (C := RX6) (N := 17) (i := 40) (ref := "SignLettersModel") (name := "thrown") (desc := "I") (WS' := [(m, .inr (6, [.int (iI (0)), .ref s1, .ref s2, .int (iI (sm)), .ref s3, .int (iI (bI (hs = true))), .ref s4, .int (iI (len)), .ref m1, .ref m2, .ref m3, .ref m4, .int (iI (ax)), .ref l1, .ref l2, .int (iI (rm)), .long (hh)]))]) tyX6 tyX6_ok nmX6 hX6_append_X6 0 rfl rfl 0 (by decide) kX6_append_f40 ⟨rfl, rfl, rfl⟩ rfl (ty := .int) (by decide +kernel) rfl rfl (Nat.le_of_ble_eq_true rfl) rfl dX6_append_2 ?_
  refine z_iload_n (pc := 5) hX 1 rfl rfl dX6_append_5 ?_
  refine z_bipush (pc := 6) hX (z := 33) (by decide +kernel) dX6_append_6 ?_
  refine z_bipush (pc := 8) hX (z := 126) (by decide +kernel) dX6_append_8 ?_
  refine z_callS_i (pc := 10) (As := [.int (iI (v)), .int (iI (33)), .int (iI (126))]) (rest := []) (wc := []) (wr := [(m, .inr (6, [.int (iI (0)), .ref s1, .ref s2, .int (iI (sm)), .ref s3, .int (iI (bI (hs = true))), .ref s4, .int (iI (len)), .ref m1, .ref m2, .ref m3, .ref m4, .int (iI (ax)), .ref l1, .ref l2, .int (iI (rm)), .long (hh)]))]) hX (mX6_in G (v) (33) (126) (by first | assumption | omega | (clear ex hX; grind [uZ])) (by first | assumption | omega | (clear ex hX; grind [uZ])) (by first | assumption | omega | (clear ex hX; grind [uZ]))) rfl rfl rfl gX6_append_X6_in hdX6_in ⟨Nat.le_of_ble_eq_true rfl, Nat.le_of_ble_eq_true rfl⟩ [] [0] rfl rfl (by decide) (by decide) (by decide) rfl (Nat.le_of_ble_eq_true rfl) ⟨Nat.le_of_ble_eq_true rfl, Nat.le_of_ble_eq_true rfl⟩ dX6_append_10 (fun r_1 u_1 h_1 => ?_)
  subst h_1
  show Z G X 2 (0) (0) [(m, .inr (6, [.int (iI (0)), .ref s1, .ref s2, .int (iI (sm)), .ref s3, .int (iI (bI (hs = true))), .ref s4, .int (iI (len)), .ref m1, .ref m2, .ref m3, .ref m4, .int (iI (ax)), .ref l1, .ref l2, .int (iI (rm)), .long (hh)]))] 13 [(0, .ref m), (1, .int (iI (v)))] [.int (iI (bI (33 ≤ v ∧ v ≤ 126)))]
  refine z_bif_ne (pc := 13) (tgt := 22) hX (by decide) dX6_append_13 (fun c_2 => ?_) (fun c_2 => ?_)
  · refine z_aload_n (pc := 22) hX 0 rfl rfl dX6_append_22 ?_
    refine z_get (pc := 23) hX (T := TX6) (C := RX6) (N := 17) (i := 117) (ref := "SignLettersModel") (name := "length") (desc := "I") hX6_append_X6 0 rfl rfl 7 (by decide) kX6_append_f117 ⟨rfl, rfl, rfl⟩ (v := .int (iI (len))) rfl dX6_append_23 ?_
    refine z_bipush (pc := 26) hX (z := 60) (by decide +kernel) dX6_append_26 ?_
    refine z_icmp_ne (pc := 28) (tgt := 37) hX (by decide) (by omega) (by omega) dX6_append_28 (fun c_3 => ?_) (fun c_3 => ?_)
    · exfalso; omega
    · refine z_aload_n (pc := 31) hX 0 rfl rfl dX6_append_31 ?_
      refine z_iconst (pc := 32) hX dX6_append_32 ?_
      refine z_callV_i (pc := 33) (As := [.int (iI (2))]) (rest := []) (wc := [(m, .inr (6, [.int (iI (0)), .ref s1, .ref s2, .int (iI (sm)), .ref s3, .int (iI (bI (hs = true))), .ref s4, .int (iI (len)), .ref m1, .ref m2, .ref m3, .ref m4, .int (iI (ax)), .ref l1, .ref l2, .int (iI (rm)), .long (hh)]))]) (wr := []) hX (mX6_fails G (m) (s1) (s2) (s3) (s4) (m1) (m2) (m3) (m4) (l1) (l2) (0) (sm) (len) (ax) (rm) (hs) (hh) (S) (2) ) rfl rfl rfl (C := RX6) gX6_append_X6_fails ⟨rfl, hdX6_fails⟩ (T := TX6) (N := 17) 0 rfl rfl ⟨Nat.le_of_ble_eq_true rfl, Nat.le_of_ble_eq_true rfl⟩ [0] [] rfl rfl (by decide) (by decide) (by decide) rfl (Nat.le_of_ble_eq_true rfl) ⟨Nat.le_of_ble_eq_true rfl, Nat.le_of_ble_eq_true rfl⟩ dX6_append_33 (fun r_4 u_4 h_4 => ?_)
      subst h_4
      show Z G X 2 (0) (0) [(m, .inr (6, [.int (iI (2)), .ref s1, .ref s2, .int (iI (sm)), .ref s3, .int (iI (bI (hs = true))), .ref s4, .int (iI (len)), .ref m1, .ref m2, .ref m3, .ref m4, .int (iI (ax)), .ref l1, .ref l2, .int (iI (rm)), .long (hh)]))] 36 [(0, .ref m), (1, .int (iI (v)))] [.int (iI (0))]
      refine (congrArg (fun z_ : Int => Z G X 2 (0) (0) [(m, .inr (6, [.int (iI (z_)), .ref s1, .ref s2, .int (iI (sm)), .ref s3, .int (iI (bI (hs = true))), .ref s4, .int (iI (len)), .ref m1, .ref m2, .ref m3, .ref m4, .int (iI (ax)), .ref l1, .ref l2, .int (iI (rm)), .long (hh)]))] 36 [(0, .ref m), (1, .int (iI (v)))] [.int (iI (0))]) (show (2 : Int) = if 33 ≤ v ∧ v ≤ 126 then (if len < 60 then (0) else 2) else 1 from by first | rfl | (rw [if_neg (by omega)]; done) | (rw [if_pos (by omega), if_neg (by omega)]; done) | (rw [if_pos (by omega), if_pos (by omega), if_neg (by omega)]; done) | (rw [if_pos (by omega), if_pos (by omega), if_pos (by omega)]; done))).mpr ?_
      exact ex _ _ _ () _ dX6_append_36 rfl rfl rfl
  · refine z_aload_n (pc := 16) hX 0 rfl rfl dX6_append_16 ?_
    refine z_iconst (pc := 17) hX dX6_append_17 ?_
    refine z_callV_i (pc := 18) (As := [.int (iI (1))]) (rest := []) (wc := [(m, .inr (6, [.int (iI (0)), .ref s1, .ref s2, .int (iI (sm)), .ref s3, .int (iI (bI (hs = true))), .ref s4, .int (iI (len)), .ref m1, .ref m2, .ref m3, .ref m4, .int (iI (ax)), .ref l1, .ref l2, .int (iI (rm)), .long (hh)]))]) (wr := []) hX (mX6_fails G (m) (s1) (s2) (s3) (s4) (m1) (m2) (m3) (m4) (l1) (l2) (0) (sm) (len) (ax) (rm) (hs) (hh) (S) (1) ) rfl rfl rfl (C := RX6) gX6_append_X6_fails ⟨rfl, hdX6_fails⟩ (T := TX6) (N := 17) 0 rfl rfl ⟨Nat.le_of_ble_eq_true rfl, Nat.le_of_ble_eq_true rfl⟩ [0] [] rfl rfl (by decide) (by decide) (by decide) rfl (Nat.le_of_ble_eq_true rfl) ⟨Nat.le_of_ble_eq_true rfl, Nat.le_of_ble_eq_true rfl⟩ dX6_append_18 (fun r_5 u_5 h_5 => ?_)
    subst h_5
    show Z G X 2 (0) (0) [(m, .inr (6, [.int (iI (1)), .ref s1, .ref s2, .int (iI (sm)), .ref s3, .int (iI (bI (hs = true))), .ref s4, .int (iI (len)), .ref m1, .ref m2, .ref m3, .ref m4, .int (iI (ax)), .ref l1, .ref l2, .int (iI (rm)), .long (hh)]))] 21 [(0, .ref m), (1, .int (iI (v)))] [.int (iI (0))]
    refine (congrArg (fun z_ : Int => Z G X 2 (0) (0) [(m, .inr (6, [.int (iI (z_)), .ref s1, .ref s2, .int (iI (sm)), .ref s3, .int (iI (bI (hs = true))), .ref s4, .int (iI (len)), .ref m1, .ref m2, .ref m3, .ref m4, .int (iI (ax)), .ref l1, .ref l2, .int (iI (rm)), .long (hh)]))] 21 [(0, .ref m), (1, .int (iI (v)))] [.int (iI (0))]) (show (1 : Int) = if 33 ≤ v ∧ v ≤ 126 then (if len < 60 then (0) else 2) else 1 from by first | rfl | (rw [if_neg (by omega)]; done) | (rw [if_pos (by omega), if_neg (by omega)]; done) | (rw [if_pos (by omega), if_pos (by omega), if_neg (by omega)]; done) | (rw [if_pos (by omega), if_pos (by omega), if_pos (by omega)]; done))).mpr ?_
    exact ex _ _ _ () _ dX6_append_21 rfl rfl rfl
theorem hX6_clearBuffer_X6 : ∀ w ∈ wsX60, w ∈ wsX6_clearBuffer := by decide +kernel
theorem kX6_clearBuffer_f117 : Cond.fieldLink RX6 117 "SignLettersModel" "length" "I" ∈ wsX6_clearBuffer := by decide +kernel
theorem kX6_clearBuffer_f40 : Cond.fieldLink RX6 40 "SignLettersModel" "thrown" "I" ∈ wsX6_clearBuffer := by decide +kernel
set_option maxHeartbeats 400000 in
set_option maxRecDepth 100000 in
theorem mX6_clearBuffer (G : ZG) (m : Nat) (s1 : Nat) (s2 : Nat) (s3 : Nat) (s4 : Nat) (m1 : Nat) (m2 : Nat) (m3 : Nat) (m4 : Nat) (l1 : Nat) (l2 : Nat) (th : Int) (sm : Int) (len : Int) (ax : Int) (rm : Int) (hs : Bool) (hh : Int64) (S : Int → Int)  : zMeti yX6_clearBuffer wsX6_clearBuffer { frames := 0, cells := 0, slots := 0, locals := 0 } G [.ref m] [(m, .inr (6, [.int (iI (th)), .ref s1, .ref s2, .int (iI (sm)), .ref s3, .int (iI (bI (hs = true))), .ref s4, .int (iI (len)), .ref m1, .ref m2, .ref m3, .ref m4, .int (iI (ax)), .ref l1, .ref l2, .int (iI (rm)), .long (hh)]))] (fun (rr : Int32) (uu : Unit) => rr = iI (len)) (fun (uu : Unit) => [(m, .inr (6, [.int (iI (0)), .ref s1, .ref s2, .int (iI (sm)), .ref s3, .int (iI (bI (hs = true))), .ref s4, .int (iI (0)), .ref m1, .ref m2, .ref m3, .ref m4, .int (iI (ax)), .ref l1, .ref l2, .int (iI (rm)), .long (hh)]))]) 0 0 := by
  refine z_meti (cc := cX6_clearBuffer) (nL := 2) (rt := .int) (by decide +kernel) rfl (Nat.le_of_ble_eq_true rfl) (fun X hX ex => ?_)
  have hX : ZOk G X 2 cX6_clearBuffer RX6 wsX6_clearBuffer { frames := 0, cells := 0, slots := 0, locals := 0 } := hX
  show Z G X 2 (0) (0) [(m, .inr (6, [.int (iI (th)), .ref s1, .ref s2, .int (iI (sm)), .ref s3, .int (iI (bI (hs = true))), .ref s4, .int (iI (len)), .ref m1, .ref m2, .ref m3, .ref m4, .int (iI (ax)), .ref l1, .ref l2, .int (iI (rm)), .long (hh)]))] 0 [(0, .ref m)] []
  refine z_aload_n (pc := 0) hX 0 rfl rfl dX6_clearBuffer_0 ?_
  refine z_iconst (pc := 1) hX dX6_clearBuffer_1 ?_
  refine z_put (pc := 2) hX (T := TX6) (C := RX6) (N := 17) (i := 40) (ref := "SignLettersModel") (name := "thrown") (desc := "I") (WS' := [(m, .inr (6, [.int (iI (0)), .ref s1, .ref s2, .int (iI (sm)), .ref s3, .int (iI (bI (hs = true))), .ref s4, .int (iI (len)), .ref m1, .ref m2, .ref m3, .ref m4, .int (iI (ax)), .ref l1, .ref l2, .int (iI (rm)), .long (hh)]))]) tyX6 tyX6_ok nmX6 hX6_clearBuffer_X6 0 rfl rfl 0 (by decide) kX6_clearBuffer_f40 ⟨rfl, rfl, rfl⟩ rfl (ty := .int) (by decide +kernel) rfl rfl (Nat.le_of_ble_eq_true rfl) rfl dX6_clearBuffer_2 ?_
  refine z_aload_n (pc := 5) hX 0 rfl rfl dX6_clearBuffer_5 ?_
  refine z_get (pc := 6) hX (T := TX6) (C := RX6) (N := 17) (i := 117) (ref := "SignLettersModel") (name := "length") (desc := "I") hX6_clearBuffer_X6 0 rfl rfl 7 (by decide) kX6_clearBuffer_f117 ⟨rfl, rfl, rfl⟩ (v := .int (iI (len))) rfl dX6_clearBuffer_6 ?_
  refine z_istore_n (pc := 9) hX (loc' := [(1, .int (iI (len))), (0, .ref m)]) rfl (by decide) rfl dX6_clearBuffer_9 ?_
  refine z_aload_n (pc := 10) hX 1 rfl rfl dX6_clearBuffer_10 ?_
  refine z_iconst (pc := 11) hX dX6_clearBuffer_11 ?_
  refine z_put (pc := 12) hX (T := TX6) (C := RX6) (N := 17) (i := 117) (ref := "SignLettersModel") (name := "length") (desc := "I") (WS' := [(m, .inr (6, [.int (iI (0)), .ref s1, .ref s2, .int (iI (sm)), .ref s3, .int (iI (bI (hs = true))), .ref s4, .int (iI (0)), .ref m1, .ref m2, .ref m3, .ref m4, .int (iI (ax)), .ref l1, .ref l2, .int (iI (rm)), .long (hh)]))]) tyX6 tyX6_ok nmX6 hX6_clearBuffer_X6 0 rfl rfl 7 (by decide) kX6_clearBuffer_f117 ⟨rfl, rfl, rfl⟩ rfl (ty := .int) (by decide +kernel) rfl rfl (Nat.le_of_ble_eq_true rfl) rfl dX6_clearBuffer_12 ?_
  refine z_iload_n (pc := 15) hX 0 rfl rfl dX6_clearBuffer_15 ?_
  exact ex _ _ _ () _ dX6_clearBuffer_16 rfl rfl rfl
theorem hX6_undo_X6 : ∀ w ∈ wsX60, w ∈ wsX6_undo := by decide +kernel
theorem kX6_undo_f13 : Cond.fieldLink RX6 13 "SignLettersModel" "saved" "[I" ∈ wsX6_undo := by decide +kernel
theorem kX6_undo_f40 : Cond.fieldLink RX6 40 "SignLettersModel" "thrown" "I" ∈ wsX6_undo := by decide +kernel
theorem kX6_undo_f52 : Cond.fieldLink RX6 52 "SignLettersModel" "savedMany" "I" ∈ wsX6_undo := by decide +kernel
theorem kX6_undo_f7 : Cond.fieldLink RX6 7 "SignLettersModel" "s" "[I" ∈ wsX6_undo := by decide +kernel
set_option maxHeartbeats 400000 in
set_option maxRecDepth 100000 in
theorem mX6_undo_ok (G : ZG) (m : Nat) (s1 : Nat) (s2 : Nat) (s3 : Nat) (s4 : Nat) (m1 : Nat) (m2 : Nat) (m3 : Nat) (m4 : Nat) (l1 : Nat) (l2 : Nat) (th : Int) (sm : Int) (len : Int) (ax : Int) (rm : Int) (hs : Bool) (hh : Int64) (S : Int → Int) (V : Int → Int) (hsm : 0 ≤ sm ∧ sm ≤ 6) (ok1 : 0 < sm) : zMeti yX6_undo wsX6_undo { frames := 0, cells := 0, slots := 0, locals := 0 } G [.ref m] [(m, .inr (6, [.int (iI (th)), .ref s1, .ref s2, .int (iI (sm)), .ref s3, .int (iI (bI (hs = true))), .ref s4, .int (iI (len)), .ref m1, .ref m2, .ref m3, .ref m4, .int (iI (ax)), .ref l1, .ref l2, .int (iI (rm)), .long (hh)])), (s2, zI G 288 (V)), (s1, zI G 48 (S))] (fun (rr : Int32) (uu : Unit) => rr = iI (sm - 1)) (fun (uu : Unit) => [(m, .inr (6, [.int (iI (0)), .ref s1, .ref s2, .int (iI (sm - 1)), .ref s3, .int (iI (bI (hs = true))), .ref s4, .int (iI (len)), .ref m1, .ref m2, .ref m3, .ref m4, .int (iI (ax)), .ref l1, .ref l2, .int (iI (rm)), .long (hh)])), (s2, zI G 288 (V)), (s1, zI G 48 (fun j : Int => V (48 * (sm - 1) + j)))]) 0 0 := by
  refine z_meti (cc := cX6_undo) (nL := 2) (rt := .int) (by decide +kernel) rfl (Nat.le_of_ble_eq_true rfl) (fun X hX ex => ?_)
  have hX : ZOk G X 2 cX6_undo RX6 wsX6_undo { frames := 0, cells := 0, slots := 0, locals := 0 } := hX
  show Z G X 2 (0) (0) [(m, .inr (6, [.int (iI (th)), .ref s1, .ref s2, .int (iI (sm)), .ref s3, .int (iI (bI (hs = true))), .ref s4, .int (iI (len)), .ref m1, .ref m2, .ref m3, .ref m4, .int (iI (ax)), .ref l1, .ref l2, .int (iI (rm)), .long (hh)])), (s2, zI G 288 (V)), (s1, zI G 48 (S))] 0 [(0, .ref m)] []
  refine z_aload_n (pc := 0) hX 0 rfl rfl dX6_undo_0 ?_
  refine z_iconst (pc := 1) hX dX6_undo_1 ?_
  refine z_put (pc := 2) hX (T := TX6) (C := RX6) (N := 17) (i := 40) (ref := "SignLettersModel") (name := "thrown") (desc := "I") (WS' := [(m, .inr (6, [.int (iI (0)), .ref s1, .ref s2, .int (iI (sm)), .ref s3, .int (iI (bI (hs = true))), .ref s4, .int (iI (len)), .ref m1, .ref m2, .ref m3, .ref m4, .int (iI (ax)), .ref l1, .ref l2, .int (iI (rm)), .long (hh)])), (s2, zI G 288 (V)), (s1, zI G 48 (S))]) tyX6 tyX6_ok nmX6 hX6_undo_X6 0 rfl rfl 0 (by decide) kX6_undo_f40 ⟨rfl, rfl, rfl⟩ rfl (ty := .int) (by decide +kernel) rfl rfl (Nat.le_of_ble_eq_true rfl) rfl dX6_undo_2 ?_
  refine z_aload_n (pc := 5) hX 0 rfl rfl dX6_undo_5 ?_
  refine z_get (pc := 6) hX (T := TX6) (C := RX6) (N := 17) (i := 52) (ref := "SignLettersModel") (name := "savedMany") (desc := "I") hX6_undo_X6 0 rfl rfl 3 (by decide) kX6_undo_f52 ⟨rfl, rfl, rfl⟩ (v := .int (iI (sm))) rfl dX6_undo_6 ?_
  refine z_if_ne (pc := 9) (tgt := 18) hX (by decide) (by omega) dX6_undo_9 (fun c_1 => ?_) (fun c_1 => absurd c_1 (by first | omega | (clear ex hX; grind [uZ])))
  refine z_aload_n (pc := 18) hX 0 rfl rfl dX6_undo_18 ?_
  refine z_dup (pc := 19) hX rfl dX6_undo_19 ?_
  refine z_get (pc := 20) hX (T := TX6) (C := RX6) (N := 17) (i := 52) (ref := "SignLettersModel") (name := "savedMany") (desc := "I") hX6_undo_X6 0 rfl rfl 3 (by decide) kX6_undo_f52 ⟨rfl, rfl, rfl⟩ (v := .int (iI (sm))) rfl dX6_undo_20 ?_
  refine z_iconst (pc := 23) hX dX6_undo_23 ?_
  refine z_isub (pc := 24) hX dX6_undo_24 ?_
  refine z_put (pc := 25) hX (T := TX6) (C := RX6) (N := 17) (i := 52) (ref := "SignLettersModel") (name := "savedMany") (desc := "I") (WS' := [(m, .inr (6, [.int (iI (0)), .ref s1, .ref s2, .int (iI (sm - 1)), .ref s3, .int (iI (bI (hs = true))), .ref s4, .int (iI (len)), .ref m1, .ref m2, .ref m3, .ref m4, .int (iI (ax)), .ref l1, .ref l2, .int (iI (rm)), .long (hh)])), (s2, zI G 288 (V)), (s1, zI G 48 (S))]) tyX6 tyX6_ok nmX6 hX6_undo_X6 0 rfl rfl 3 (by decide) kX6_undo_f52 ⟨rfl, rfl, rfl⟩ rfl (ty := .int) (by decide +kernel) rfl rfl (Nat.le_of_ble_eq_true rfl) rfl dX6_undo_25 ?_
  refine z_iconst (pc := 28) hX dX6_undo_28 ?_
  refine z_istore_n (pc := 29) hX (loc' := [(1, .int (iI (0))), (0, .ref m)]) rfl (by decide) rfl dX6_undo_29 ?_
  have cut_30 : ∀ (fz : Nat) (i : Int) (S1 : Int → Int) (h0 : 0 ≤ i) (h1 : i ≤ 48) (hS : ∀ j : Int, 0 ≤ j → j < i → S1 j = V (48 * (sm - 1) + j)) (hm_30 : 48 - i < (fz : Int)), Z G X 2 (0) (0) [(m, .inr (6, [.int (iI (0)), .ref s1, .ref s2, .int (iI (sm - 1)), .ref s3, .int (iI (bI (hs = true))), .ref s4, .int (iI (len)), .ref m1, .ref m2, .ref m3, .ref m4, .int (iI (ax)), .ref l1, .ref l2, .int (iI (rm)), .long (hh)])), (s2, zI G 288 (V)), (s1, zI G 48 (S1))] 30 [(0, .ref m), (1, .int (iI (i)))] [] := by
    intro fz
    induction fz with
    | zero =>
      intro i S1 h0 h1 hS hm_30
      exfalso
      omega
    | succ fz ih =>
      intro i S1 h0 h1 hS hm_30
      have ih_30 := ih
      clear ih
      refine z_iload_n (pc := 30) hX 1 rfl rfl dX6_undo_30 ?_
      refine z_bipush (pc := 31) hX (z := 48) (by decide +kernel) dX6_undo_31 ?_
      refine z_icmp_ge (pc := 33) (tgt := 62) hX (by decide) (by omega) (by omega) dX6_undo_33 (fun c_2 => ?_) (fun c_2 => ?_)
      · refine z_aload_n (pc := 62) hX 0 rfl rfl dX6_undo_62 ?_
        refine z_get (pc := 63) hX (T := TX6) (C := RX6) (N := 17) (i := 52) (ref := "SignLettersModel") (name := "savedMany") (desc := "I") hX6_undo_X6 0 rfl rfl 3 (by decide) kX6_undo_f52 ⟨rfl, rfl, rfl⟩ (v := .int (iI (sm - 1))) rfl dX6_undo_63 ?_
        refine z_arrX (N := 48) (F := S1) (F1 := fun j : Int => V (48 * (sm - 1) + j)) (WS1 := [(m, .inr (6, [.int (iI (0)), .ref s1, .ref s2, .int (iI (sm - 1)), .ref s3, .int (iI (bI (hs = true))), .ref s4, .int (iI (len)), .ref m1, .ref m2, .ref m3, .ref m4, .int (iI (ax)), .ref l1, .ref l2, .int (iI (rm)), .long (hh)])), (s2, zI G 288 (V)), (s1, zI G 48 (fun j : Int => V (48 * (sm - 1) + j)))]) 2 rfl (fun j hj0 hj1 => by exact hS j hj0 (by omega)) rfl ?_
        exact ex _ _ _ () _ dX6_undo_66 rfl rfl rfl
      · refine z_aload_n (pc := 36) hX 0 rfl rfl dX6_undo_36 ?_
        refine z_get (pc := 37) hX (T := TX6) (C := RX6) (N := 17) (i := 7) (ref := "SignLettersModel") (name := "s") (desc := "[I") hX6_undo_X6 0 rfl rfl 1 (by decide) kX6_undo_f7 ⟨rfl, rfl, rfl⟩ (v := .ref s1) rfl dX6_undo_37 ?_
        refine z_iload_n (pc := 40) hX 1 rfl rfl dX6_undo_40 ?_
        refine z_aload_n (pc := 41) hX 0 rfl rfl dX6_undo_41 ?_
        refine z_get (pc := 42) hX (T := TX6) (C := RX6) (N := 17) (i := 13) (ref := "SignLettersModel") (name := "saved") (desc := "[I") hX6_undo_X6 0 rfl rfl 2 (by decide) kX6_undo_f13 ⟨rfl, rfl, rfl⟩ (v := .ref s2) rfl dX6_undo_42 ?_
        refine z_bipush (pc := 45) hX (z := 48) (by decide +kernel) dX6_undo_45 ?_
        refine z_aload_n (pc := 47) hX 0 rfl rfl dX6_undo_47 ?_
        refine z_get (pc := 48) hX (T := TX6) (C := RX6) (N := 17) (i := 52) (ref := "SignLettersModel") (name := "savedMany") (desc := "I") hX6_undo_X6 0 rfl rfl 3 (by decide) kX6_undo_f52 ⟨rfl, rfl, rfl⟩ (v := .int (iI (sm - 1))) rfl dX6_undo_48 ?_
        refine z_imul (pc := 51) hX dX6_undo_51 ?_
        refine z_iload_n (pc := 52) hX 1 rfl rfl dX6_undo_52 ?_
        refine z_iadd (pc := 53) hX dX6_undo_53 ?_
        refine z_iald (pc := 54) hX (N := 288) (F := V) 1 rfl (by omega) (by omega) dX6_undo_54 ?_
        refine z_iast (pc := 55) hX (N := 48) (F := S1) (WS' := [(m, .inr (6, [.int (iI (0)), .ref s1, .ref s2, .int (iI (sm - 1)), .ref s3, .int (iI (bI (hs = true))), .ref s4, .int (iI (len)), .ref m1, .ref m2, .ref m3, .ref m4, .int (iI (ax)), .ref l1, .ref l2, .int (iI (rm)), .long (hh)])), (s2, zI G 288 (V)), (s1, zI G 48 (uZ S1 i (V ((48 * (sm - 1)) + i))))]) 2 rfl (by omega) (by omega) rfl dX6_undo_55 ?_
        refine z_iinc (pc := 56) hX (loc' := [(1, .int (iI (i + 1))), (0, .ref m)]) 1 rfl (by decide) rfl dX6_undo_56 ?_
        refine z_goto (pc := 59) (tgt := 30) hX (by decide) dX6_undo_59 ?_
        refine z_at [1, 0] [0, 1, 2] (loc' := [(0, .ref m), (1, .int (iI ((i + 1))))]) (WS' := [(m, .inr (6, [.int (iI (0)), .ref s1, .ref s2, .int (iI (sm - 1)), .ref s3, .int (iI (bI (hs = true))), .ref s4, .int (iI (len)), .ref m1, .ref m2, .ref m3, .ref m4, .int (iI (ax)), .ref l1, .ref l2, .int (iI (rm)), .long (hh)])), (s2, zI G 288 (V)), (s1, zI G 48 ((uZ S1 i (V ((48 * (sm - 1)) + i)))))]) rfl (by decide) rfl ?_
        exact ih_30 (i + 1) (uZ S1 i (V ((48 * (sm - 1)) + i))) (by first | assumption | omega | (clear ex hX ih_30; grind [uZ])) (by first | assumption | omega | (clear ex hX ih_30; grind [uZ])) (by exact uZ_step hS rfl) (by omega)
  refine z_at [1, 0] [0, 1, 2] (loc' := [(0, .ref m), (1, .int (iI (0)))]) (WS' := [(m, .inr (6, [.int (iI (0)), .ref s1, .ref s2, .int (iI (sm - 1)), .ref s3, .int (iI (bI (hs = true))), .ref s4, .int (iI (len)), .ref m1, .ref m2, .ref m3, .ref m4, .int (iI (ax)), .ref l1, .ref l2, .int (iI (rm)), .long (hh)])), (s2, zI G 288 (V)), (s1, zI G 48 (S))]) rfl (by decide) rfl ?_
  exact cut_30 (Int.toNat (48 - 0) + 1) (0) (S) (by first | assumption | omega | (clear ex hX cut_30; grind [uZ])) (by first | assumption | omega | (clear ex hX cut_30; grind [uZ])) (by intro j j0 j1; omega) (by omega)
set_option maxHeartbeats 400000 in
set_option maxRecDepth 100000 in
theorem mX6_undo_no (G : ZG) (m : Nat) (s1 : Nat) (s2 : Nat) (s3 : Nat) (s4 : Nat) (m1 : Nat) (m2 : Nat) (m3 : Nat) (m4 : Nat) (l1 : Nat) (l2 : Nat) (th : Int) (sm : Int) (len : Int) (ax : Int) (rm : Int) (hs : Bool) (hh : Int64) (S : Int → Int) (hsm : 0 ≤ sm ∧ sm ≤ 6) (hbad : ¬ ((0 < sm))) : zMeti yX6_undo wsX6_undo { frames := 1, cells := 0, slots := 0, locals := 21 } G [.ref m] [(m, .inr (6, [.int (iI (th)), .ref s1, .ref s2, .int (iI (sm)), .ref s3, .int (iI (bI (hs = true))), .ref s4, .int (iI (len)), .ref m1, .ref m2, .ref m3, .ref m4, .int (iI (ax)), .ref l1, .ref l2, .int (iI (rm)), .long (hh)]))] (fun (rr : Int32) (uu : Unit) => rr = iI (0)) (fun (uu : Unit) => [(m, .inr (6, [.int (iI (if 0 < sm then (0) else 1)), .ref s1, .ref s2, .int (iI (sm)), .ref s3, .int (iI (bI (hs = true))), .ref s4, .int (iI (len)), .ref m1, .ref m2, .ref m3, .ref m4, .int (iI (ax)), .ref l1, .ref l2, .int (iI (rm)), .long (hh)]))]) 0 0 := by
  refine z_meti (cc := cX6_undo) (nL := 2) (rt := .int) (by decide +kernel) rfl (Nat.le_of_ble_eq_true rfl) (fun X hX ex => ?_)
  have hX : ZOk G X 2 cX6_undo RX6 wsX6_undo { frames := 1, cells := 0, slots := 0, locals := 21 } := hX
  show Z G X 2 (0) (0) [(m, .inr (6, [.int (iI (th)), .ref s1, .ref s2, .int (iI (sm)), .ref s3, .int (iI (bI (hs = true))), .ref s4, .int (iI (len)), .ref m1, .ref m2, .ref m3, .ref m4, .int (iI (ax)), .ref l1, .ref l2, .int (iI (rm)), .long (hh)]))] 0 [(0, .ref m)] []
  refine z_aload_n (pc := 0) hX 0 rfl rfl dX6_undo_0 ?_
  refine z_iconst (pc := 1) hX dX6_undo_1 ?_
  refine z_put (pc := 2) hX (T := TX6) (C := RX6) (N := 17) (i := 40) (ref := "SignLettersModel") (name := "thrown") (desc := "I") (WS' := [(m, .inr (6, [.int (iI (0)), .ref s1, .ref s2, .int (iI (sm)), .ref s3, .int (iI (bI (hs = true))), .ref s4, .int (iI (len)), .ref m1, .ref m2, .ref m3, .ref m4, .int (iI (ax)), .ref l1, .ref l2, .int (iI (rm)), .long (hh)]))]) tyX6 tyX6_ok nmX6 hX6_undo_X6 0 rfl rfl 0 (by decide) kX6_undo_f40 ⟨rfl, rfl, rfl⟩ rfl (ty := .int) (by decide +kernel) rfl rfl (Nat.le_of_ble_eq_true rfl) rfl dX6_undo_2 ?_
  refine z_aload_n (pc := 5) hX 0 rfl rfl dX6_undo_5 ?_
  refine z_get (pc := 6) hX (T := TX6) (C := RX6) (N := 17) (i := 52) (ref := "SignLettersModel") (name := "savedMany") (desc := "I") hX6_undo_X6 0 rfl rfl 3 (by decide) kX6_undo_f52 ⟨rfl, rfl, rfl⟩ (v := .int (iI (sm))) rfl dX6_undo_6 ?_
  refine z_if_ne (pc := 9) (tgt := 18) hX (by decide) (by omega) dX6_undo_9 (fun c_1 => ?_) (fun c_1 => ?_)
  · exfalso; omega
  · refine z_aload_n (pc := 12) hX 0 rfl rfl dX6_undo_12 ?_
    refine z_iconst (pc := 13) hX dX6_undo_13 ?_
    refine z_callV_i (pc := 14) (As := [.int (iI (1))]) (rest := []) (wc := [(m, .inr (6, [.int (iI (0)), .ref s1, .ref s2, .int (iI (sm)), .ref s3, .int (iI (bI (hs = true))), .ref s4, .int (iI (len)), .ref m1, .ref m2, .ref m3, .ref m4, .int (iI (ax)), .ref l1, .ref l2, .int (iI (rm)), .long (hh)]))]) (wr := []) hX (mX6_fails G (m) (s1) (s2) (s3) (s4) (m1) (m2) (m3) (m4) (l1) (l2) (0) (sm) (len) (ax) (rm) (hs) (hh) (S) (1) ) rfl rfl rfl (C := RX6) gX6_undo_X6_fails ⟨rfl, hdX6_fails⟩ (T := TX6) (N := 17) 0 rfl rfl ⟨Nat.le_of_ble_eq_true rfl, Nat.le_of_ble_eq_true rfl⟩ [0] [] rfl rfl (by decide) (by decide) (by decide) rfl (Nat.le_of_ble_eq_true rfl) ⟨Nat.le_of_ble_eq_true rfl, Nat.le_of_ble_eq_true rfl⟩ dX6_undo_14 (fun r_2 u_2 h_2 => ?_)
    subst h_2
    show Z G X 2 (0) (0) [(m, .inr (6, [.int (iI (1)), .ref s1, .ref s2, .int (iI (sm)), .ref s3, .int (iI (bI (hs = true))), .ref s4, .int (iI (len)), .ref m1, .ref m2, .ref m3, .ref m4, .int (iI (ax)), .ref l1, .ref l2, .int (iI (rm)), .long (hh)]))] 17 [(0, .ref m)] [.int (iI (0))]
    refine (congrArg (fun z_ : Int => Z G X 2 (0) (0) [(m, .inr (6, [.int (iI (z_)), .ref s1, .ref s2, .int (iI (sm)), .ref s3, .int (iI (bI (hs = true))), .ref s4, .int (iI (len)), .ref m1, .ref m2, .ref m3, .ref m4, .int (iI (ax)), .ref l1, .ref l2, .int (iI (rm)), .long (hh)]))] 17 [(0, .ref m)] [.int (iI (0))]) (show (1 : Int) = if 0 < sm then (0) else 1 from by first | rfl | (rw [if_neg (by omega)]; done) | (rw [if_pos (by omega), if_neg (by omega)]; done) | (rw [if_pos (by omega), if_pos (by omega), if_neg (by omega)]; done) | (rw [if_pos (by omega), if_pos (by omega), if_pos (by omega)]; done))).mpr ?_
    exact ex _ _ _ () _ dX6_undo_17 rfl rfl rfl
theorem hX6_keep_X6 : ∀ w ∈ wsX60, w ∈ wsX6_keep := by decide +kernel
theorem kX6_keep_f139 : Cond.fieldLink RX6 139 "SignLettersModel" "hasSnapshot" "Z" ∈ wsX6_keep := by decide +kernel
theorem kX6_keep_f16 : Cond.fieldLink RX6 16 "SignLettersModel" "snapshot" "[I" ∈ wsX6_keep := by decide +kernel
theorem kX6_keep_f40 : Cond.fieldLink RX6 40 "SignLettersModel" "thrown" "I" ∈ wsX6_keep := by decide +kernel
theorem kX6_keep_f7 : Cond.fieldLink RX6 7 "SignLettersModel" "s" "[I" ∈ wsX6_keep := by decide +kernel
set_option maxHeartbeats 400000 in
set_option maxRecDepth 100000 in
theorem mX6_keep (G : ZG) (m : Nat) (s1 : Nat) (s2 : Nat) (s3 : Nat) (s4 : Nat) (m1 : Nat) (m2 : Nat) (m3 : Nat) (m4 : Nat) (l1 : Nat) (l2 : Nat) (th : Int) (sm : Int) (len : Int) (ax : Int) (rm : Int) (hs : Bool) (hh : Int64) (S : Int → Int) (T : Int → Int)  : zMeti yX6_keep wsX6_keep { frames := 0, cells := 0, slots := 0, locals := 0 } G [.ref m] [(m, .inr (6, [.int (iI (th)), .ref s1, .ref s2, .int (iI (sm)), .ref s3, .int (iI (bI (hs = true))), .ref s4, .int (iI (len)), .ref m1, .ref m2, .ref m3, .ref m4, .int (iI (ax)), .ref l1, .ref l2, .int (iI (rm)), .long (hh)])), (s1, zI G 48 (S)), (s3, zI G 48 (T))] (fun (rr : Int32) (uu : Unit) => rr = iI (S 7)) (fun (uu : Unit) => [(m, .inr (6, [.int (iI (0)), .ref s1, .ref s2, .int (iI (sm)), .ref s3, .int (iI (bI (true = true))), .ref s4, .int (iI (len)), .ref m1, .ref m2, .ref m3, .ref m4, .int (iI (ax)), .ref l1, .ref l2, .int (iI (rm)), .long (hh)])), (s1, zI G 48 (S)), (s3, zI G 48 (S))]) 0 0 := by
  refine z_meti (cc := cX6_keep) (nL := 2) (rt := .int) (by decide +kernel) rfl (Nat.le_of_ble_eq_true rfl) (fun X hX ex => ?_)
  have hX : ZOk G X 2 cX6_keep RX6 wsX6_keep { frames := 0, cells := 0, slots := 0, locals := 0 } := hX
  show Z G X 2 (0) (0) [(m, .inr (6, [.int (iI (th)), .ref s1, .ref s2, .int (iI (sm)), .ref s3, .int (iI (bI (hs = true))), .ref s4, .int (iI (len)), .ref m1, .ref m2, .ref m3, .ref m4, .int (iI (ax)), .ref l1, .ref l2, .int (iI (rm)), .long (hh)])), (s1, zI G 48 (S)), (s3, zI G 48 (T))] 0 [(0, .ref m)] []
  refine z_aload_n (pc := 0) hX 0 rfl rfl dX6_keep_0 ?_
  refine z_iconst (pc := 1) hX dX6_keep_1 ?_
  refine z_put (pc := 2) hX (T := TX6) (C := RX6) (N := 17) (i := 40) (ref := "SignLettersModel") (name := "thrown") (desc := "I") (WS' := [(m, .inr (6, [.int (iI (0)), .ref s1, .ref s2, .int (iI (sm)), .ref s3, .int (iI (bI (hs = true))), .ref s4, .int (iI (len)), .ref m1, .ref m2, .ref m3, .ref m4, .int (iI (ax)), .ref l1, .ref l2, .int (iI (rm)), .long (hh)])), (s1, zI G 48 (S)), (s3, zI G 48 (T))]) tyX6 tyX6_ok nmX6 hX6_keep_X6 0 rfl rfl 0 (by decide) kX6_keep_f40 ⟨rfl, rfl, rfl⟩ rfl (ty := .int) (by decide +kernel) rfl rfl (Nat.le_of_ble_eq_true rfl) rfl dX6_keep_2 ?_
  refine z_iconst (pc := 5) hX dX6_keep_5 ?_
  refine z_istore_n (pc := 6) hX (loc' := [(1, .int (iI (0))), (0, .ref m)]) rfl (by decide) rfl dX6_keep_6 ?_
  have cut_7 : ∀ (fz : Nat) (i : Int) (T1 : Int → Int) (h0 : 0 ≤ i) (h1 : i ≤ 48) (hT : ∀ j : Int, 0 ≤ j → j < i → T1 j = S j) (hm_7 : 48 - i < (fz : Int)), Z G X 2 (0) (0) [(m, .inr (6, [.int (iI (0)), .ref s1, .ref s2, .int (iI (sm)), .ref s3, .int (iI (bI (hs = true))), .ref s4, .int (iI (len)), .ref m1, .ref m2, .ref m3, .ref m4, .int (iI (ax)), .ref l1, .ref l2, .int (iI (rm)), .long (hh)])), (s1, zI G 48 (S)), (s3, zI G 48 (T1))] 7 [(0, .ref m), (1, .int (iI (i)))] [] := by
    intro fz
    induction fz with
    | zero =>
      intro i T1 h0 h1 hT hm_7
      exfalso
      omega
    | succ fz ih =>
      intro i T1 h0 h1 hT hm_7
      have ih_7 := ih
      clear ih
      refine z_iload_n (pc := 7) hX 1 rfl rfl dX6_keep_7 ?_
      refine z_bipush (pc := 8) hX (z := 48) (by decide +kernel) dX6_keep_8 ?_
      refine z_icmp_ge (pc := 10) (tgt := 31) hX (by decide) (by omega) (by omega) dX6_keep_10 (fun c_1 => ?_) (fun c_1 => ?_)
      · refine z_aload_n (pc := 31) hX 0 rfl rfl dX6_keep_31 ?_
        refine z_iconst (pc := 32) hX dX6_keep_32 ?_
        refine z_put (pc := 33) hX (T := TX6) (C := RX6) (N := 17) (i := 139) (ref := "SignLettersModel") (name := "hasSnapshot") (desc := "Z") (WS' := [(m, .inr (6, [.int (iI (0)), .ref s1, .ref s2, .int (iI (sm)), .ref s3, .int (iI (1)), .ref s4, .int (iI (len)), .ref m1, .ref m2, .ref m3, .ref m4, .int (iI (ax)), .ref l1, .ref l2, .int (iI (rm)), .long (hh)])), (s1, zI G 48 (S)), (s3, zI G 48 (T1))]) tyX6 tyX6_ok nmX6 hX6_keep_X6 0 rfl rfl 5 (by decide) kX6_keep_f139 ⟨rfl, rfl, rfl⟩ rfl (ty := .boolean) (by decide +kernel) (by first | rfl | decide +kernel | exact nar_b) (by first | rfl | decide +kernel | exact fit_b) (Nat.le_of_ble_eq_true rfl) rfl dX6_keep_33 ?_
        refine z_aload_n (pc := 36) hX 0 rfl rfl dX6_keep_36 ?_
        refine z_get (pc := 37) hX (T := TX6) (C := RX6) (N := 17) (i := 7) (ref := "SignLettersModel") (name := "s") (desc := "[I") hX6_keep_X6 0 rfl rfl 1 (by decide) kX6_keep_f7 ⟨rfl, rfl, rfl⟩ (v := .ref s1) rfl dX6_keep_37 ?_
        refine z_bipush (pc := 40) hX (z := 7) (by decide +kernel) dX6_keep_40 ?_
        refine z_iald (pc := 42) hX (N := 48) (F := S) 1 rfl (by omega) (by omega) dX6_keep_42 ?_
        refine (congrArg (fun z_ : Int => Z G X 2 (0) (0) [(m, .inr (6, [.int (iI (0)), .ref s1, .ref s2, .int (iI (sm)), .ref s3, .int (iI (z_)), .ref s4, .int (iI (len)), .ref m1, .ref m2, .ref m3, .ref m4, .int (iI (ax)), .ref l1, .ref l2, .int (iI (rm)), .long (hh)])), (s1, zI G 48 (S)), (s3, zI G 48 (T1))] 43 [(0, .ref m), (1, .int (iI (i)))] [.int (iI (S 7))]) (show (1 : Int) = bI (true = true) from by first | rfl | omega | (clear ex hX ih_7; grind [uZ]))).mpr ?_
        refine z_arrX (N := 48) (F := T1) (F1 := S) (WS1 := [(m, .inr (6, [.int (iI (0)), .ref s1, .ref s2, .int (iI (sm)), .ref s3, .int (iI (bI (true = true))), .ref s4, .int (iI (len)), .ref m1, .ref m2, .ref m3, .ref m4, .int (iI (ax)), .ref l1, .ref l2, .int (iI (rm)), .long (hh)])), (s1, zI G 48 (S)), (s3, zI G 48 (S))]) 2 rfl (fun j hj0 hj1 => by exact hT j hj0 (by omega)) rfl ?_
        exact ex _ _ _ () _ dX6_keep_43 rfl rfl rfl
      · refine z_aload_n (pc := 13) hX 0 rfl rfl dX6_keep_13 ?_
        refine z_get (pc := 14) hX (T := TX6) (C := RX6) (N := 17) (i := 16) (ref := "SignLettersModel") (name := "snapshot") (desc := "[I") hX6_keep_X6 0 rfl rfl 4 (by decide) kX6_keep_f16 ⟨rfl, rfl, rfl⟩ (v := .ref s3) rfl dX6_keep_14 ?_
        refine z_iload_n (pc := 17) hX 1 rfl rfl dX6_keep_17 ?_
        refine z_aload_n (pc := 18) hX 0 rfl rfl dX6_keep_18 ?_
        refine z_get (pc := 19) hX (T := TX6) (C := RX6) (N := 17) (i := 7) (ref := "SignLettersModel") (name := "s") (desc := "[I") hX6_keep_X6 0 rfl rfl 1 (by decide) kX6_keep_f7 ⟨rfl, rfl, rfl⟩ (v := .ref s1) rfl dX6_keep_19 ?_
        refine z_iload_n (pc := 22) hX 1 rfl rfl dX6_keep_22 ?_
        refine z_iald (pc := 23) hX (N := 48) (F := S) 1 rfl (by omega) (by omega) dX6_keep_23 ?_
        refine z_iast (pc := 24) hX (N := 48) (F := T1) (WS' := [(m, .inr (6, [.int (iI (0)), .ref s1, .ref s2, .int (iI (sm)), .ref s3, .int (iI (bI (hs = true))), .ref s4, .int (iI (len)), .ref m1, .ref m2, .ref m3, .ref m4, .int (iI (ax)), .ref l1, .ref l2, .int (iI (rm)), .long (hh)])), (s1, zI G 48 (S)), (s3, zI G 48 (uZ T1 i (S i)))]) 2 rfl (by omega) (by omega) rfl dX6_keep_24 ?_
        refine z_iinc (pc := 25) hX (loc' := [(1, .int (iI (i + 1))), (0, .ref m)]) 1 rfl (by decide) rfl dX6_keep_25 ?_
        refine z_goto (pc := 28) (tgt := 7) hX (by decide) dX6_keep_28 ?_
        refine z_at [1, 0] [0, 1, 2] (loc' := [(0, .ref m), (1, .int (iI ((i + 1))))]) (WS' := [(m, .inr (6, [.int (iI (0)), .ref s1, .ref s2, .int (iI (sm)), .ref s3, .int (iI (bI (hs = true))), .ref s4, .int (iI (len)), .ref m1, .ref m2, .ref m3, .ref m4, .int (iI (ax)), .ref l1, .ref l2, .int (iI (rm)), .long (hh)])), (s1, zI G 48 (S)), (s3, zI G 48 ((uZ T1 i (S i))))]) rfl (by decide) rfl ?_
        exact ih_7 (i + 1) (uZ T1 i (S i)) (by first | assumption | omega | (clear ex hX ih_7; grind [uZ])) (by first | assumption | omega | (clear ex hX ih_7; grind [uZ])) (by exact uZ_step hT rfl) (by omega)
  refine z_at [1, 0] [0, 1, 2] (loc' := [(0, .ref m), (1, .int (iI (0)))]) (WS' := [(m, .inr (6, [.int (iI (0)), .ref s1, .ref s2, .int (iI (sm)), .ref s3, .int (iI (bI (hs = true))), .ref s4, .int (iI (len)), .ref m1, .ref m2, .ref m3, .ref m4, .int (iI (ax)), .ref l1, .ref l2, .int (iI (rm)), .long (hh)])), (s1, zI G 48 (S)), (s3, zI G 48 (T))]) rfl (by decide) rfl ?_
  exact cut_7 (Int.toNat (48 - 0) + 1) (0) (T) (by first | assumption | omega | (clear ex hX cut_7; grind [uZ])) (by first | assumption | omega | (clear ex hX cut_7; grind [uZ])) (by intro j j0 j1; omega) (by omega)
theorem hX6_restore_X6 : ∀ w ∈ wsX60, w ∈ wsX6_restore := by decide +kernel
theorem kX6_restore_f139 : Cond.fieldLink RX6 139 "SignLettersModel" "hasSnapshot" "Z" ∈ wsX6_restore := by decide +kernel
theorem kX6_restore_f16 : Cond.fieldLink RX6 16 "SignLettersModel" "snapshot" "[I" ∈ wsX6_restore := by decide +kernel
theorem kX6_restore_f40 : Cond.fieldLink RX6 40 "SignLettersModel" "thrown" "I" ∈ wsX6_restore := by decide +kernel
theorem kX6_restore_f7 : Cond.fieldLink RX6 7 "SignLettersModel" "s" "[I" ∈ wsX6_restore := by decide +kernel
set_option maxHeartbeats 400000 in
set_option maxRecDepth 100000 in
theorem mX6_restore_ok (G : ZG) (m : Nat) (s1 : Nat) (s2 : Nat) (s3 : Nat) (s4 : Nat) (m1 : Nat) (m2 : Nat) (m3 : Nat) (m4 : Nat) (l1 : Nat) (l2 : Nat) (th : Int) (sm : Int) (len : Int) (ax : Int) (rm : Int) (hs : Bool) (hh : Int64) (S : Int → Int) (V : Int → Int) (T : Int → Int) (hsm : 0 ≤ sm ∧ sm ≤ 6) (ok1 : hs = true) : zMeti yX6_restore wsX6_restore { frames := 1, cells := 0, slots := 0, locals := 21 } G [.ref m] [(m, .inr (6, [.int (iI (th)), .ref s1, .ref s2, .int (iI (sm)), .ref s3, .int (iI (bI (hs = true))), .ref s4, .int (iI (len)), .ref m1, .ref m2, .ref m3, .ref m4, .int (iI (ax)), .ref l1, .ref l2, .int (iI (rm)), .long (hh)])), (s2, zI G 288 (V)), (s1, zI G 48 (S)), (s3, zI G 48 (T))] (fun (rr : Int32) (uu : Unit) => rr = iI (T 7)) (fun (uu : Unit) => [(m, .inr (6, [.int (iI (0)), .ref s1, .ref s2, .int (iI (pSz sm + 1)), .ref s3, .int (iI (bI (hs = true))), .ref s4, .int (iI (len)), .ref m1, .ref m2, .ref m3, .ref m4, .int (iI (ax)), .ref l1, .ref l2, .int (iI (rm)), .long (hh)])), (s2, zI G 288 (svS V sm S)), (s1, zI G 48 (T)), (s3, zI G 48 (T))]) 0 0 := by
  refine z_meti (cc := cX6_restore) (nL := 2) (rt := .int) (by decide +kernel) rfl (Nat.le_of_ble_eq_true rfl) (fun X hX ex => ?_)
  have hX : ZOk G X 2 cX6_restore RX6 wsX6_restore { frames := 1, cells := 0, slots := 0, locals := 21 } := hX
  show Z G X 2 (0) (0) [(m, .inr (6, [.int (iI (th)), .ref s1, .ref s2, .int (iI (sm)), .ref s3, .int (iI (bI (hs = true))), .ref s4, .int (iI (len)), .ref m1, .ref m2, .ref m3, .ref m4, .int (iI (ax)), .ref l1, .ref l2, .int (iI (rm)), .long (hh)])), (s2, zI G 288 (V)), (s1, zI G 48 (S)), (s3, zI G 48 (T))] 0 [(0, .ref m)] []
  refine z_aload_n (pc := 0) hX 0 rfl rfl dX6_restore_0 ?_
  refine z_iconst (pc := 1) hX dX6_restore_1 ?_
  refine z_put (pc := 2) hX (T := TX6) (C := RX6) (N := 17) (i := 40) (ref := "SignLettersModel") (name := "thrown") (desc := "I") (WS' := [(m, .inr (6, [.int (iI (0)), .ref s1, .ref s2, .int (iI (sm)), .ref s3, .int (iI (bI (hs = true))), .ref s4, .int (iI (len)), .ref m1, .ref m2, .ref m3, .ref m4, .int (iI (ax)), .ref l1, .ref l2, .int (iI (rm)), .long (hh)])), (s2, zI G 288 (V)), (s1, zI G 48 (S)), (s3, zI G 48 (T))]) tyX6 tyX6_ok nmX6 hX6_restore_X6 0 rfl rfl 0 (by decide) kX6_restore_f40 ⟨rfl, rfl, rfl⟩ rfl (ty := .int) (by decide +kernel) rfl rfl (Nat.le_of_ble_eq_true rfl) rfl dX6_restore_2 ?_
  refine z_aload_n (pc := 5) hX 0 rfl rfl dX6_restore_5 ?_
  refine z_get (pc := 6) hX (T := TX6) (C := RX6) (N := 17) (i := 139) (ref := "SignLettersModel") (name := "hasSnapshot") (desc := "Z") hX6_restore_X6 0 rfl rfl 5 (by decide) kX6_restore_f139 ⟨rfl, rfl, rfl⟩ (v := .int (iI (bI (hs = true)))) rfl dX6_restore_6 ?_
  refine z_bif_ne (pc := 9) (tgt := 18) hX (by decide) dX6_restore_9 (fun c_1 => ?_) (fun c_1 => by first | exact absurd c_1 ok1 | exact absurd ok1 c_1)
  refine z_aload_n (pc := 18) hX 0 rfl rfl dX6_restore_18 ?_
  refine z_callV_v (pc := 19) (As := []) (rest := []) (wc := [(m, .inr (6, [.int (iI (0)), .ref s1, .ref s2, .int (iI (sm)), .ref s3, .int (iI (bI (hs = true))), .ref s4, .int (iI (len)), .ref m1, .ref m2, .ref m3, .ref m4, .int (iI (ax)), .ref l1, .ref l2, .int (iI (rm)), .long (hh)])), (s2, zI G 288 (V)), (s1, zI G 48 (S))]) (wr := [(s3, zI G 48 (T))]) hX (mX6_saves G (m) (s1) (s2) (s3) (s4) (m1) (m2) (m3) (m4) (l1) (l2) (0) (sm) (len) (ax) (rm) (hs) (hh) (S) (V) (by first | assumption | omega | (clear ex hX; grind [uZ]))) rfl rfl rfl (C := RX6) gX6_restore_X6_saves ⟨rfl, hdX6_saves⟩ (T := TX6) (N := 17) 0 rfl rfl ⟨Nat.le_of_ble_eq_true rfl, Nat.le_of_ble_eq_true rfl⟩ [0, 1, 2] [3] rfl rfl (by decide) (by decide) (by decide) rfl (Nat.le_of_ble_eq_true rfl) ⟨Nat.le_of_ble_eq_true rfl, Nat.le_of_ble_eq_true rfl⟩ dX6_restore_19 (fun u_2 h_2 => ?_)
  show Z G X 2 (0) (0) [(s3, zI G 48 (T)), (m, .inr (6, [.int (iI (0)), .ref s1, .ref s2, .int (iI (pSz sm + 1)), .ref s3, .int (iI (bI (hs = true))), .ref s4, .int (iI (len)), .ref m1, .ref m2, .ref m3, .ref m4, .int (iI (ax)), .ref l1, .ref l2, .int (iI (rm)), .long (hh)])), (s2, zI G 288 (svS V sm S)), (s1, zI G 48 (S))] 22 [(0, .ref m)] []
  refine z_iconst (pc := 22) hX dX6_restore_22 ?_
  refine z_istore_n (pc := 23) hX (loc' := [(1, .int (iI (0))), (0, .ref m)]) rfl (by decide) rfl dX6_restore_23 ?_
  have cut_24 : ∀ (fz : Nat) (i : Int) (S1 : Int → Int) (h0 : 0 ≤ i) (h1 : i ≤ 48) (hS : ∀ j : Int, 0 ≤ j → j < i → S1 j = T j) (hm_24 : 48 - i < (fz : Int)), Z G X 2 (0) (0) [(s3, zI G 48 (T)), (m, .inr (6, [.int (iI (0)), .ref s1, .ref s2, .int (iI (pSz sm + 1)), .ref s3, .int (iI (bI (hs = true))), .ref s4, .int (iI (len)), .ref m1, .ref m2, .ref m3, .ref m4, .int (iI (ax)), .ref l1, .ref l2, .int (iI (rm)), .long (hh)])), (s2, zI G 288 (svS V sm S)), (s1, zI G 48 (S1))] 24 [(0, .ref m), (1, .int (iI (i)))] [] := by
    intro fz
    induction fz with
    | zero =>
      intro i S1 h0 h1 hS hm_24
      exfalso
      omega
    | succ fz ih =>
      intro i S1 h0 h1 hS hm_24
      have ih_24 := ih
      clear ih
      refine z_iload_n (pc := 24) hX 1 rfl rfl dX6_restore_24 ?_
      refine z_bipush (pc := 25) hX (z := 48) (by decide +kernel) dX6_restore_25 ?_
      refine z_icmp_ge (pc := 27) (tgt := 48) hX (by decide) (by omega) (by omega) dX6_restore_27 (fun c_3 => ?_) (fun c_3 => ?_)
      · refine z_aload_n (pc := 48) hX 0 rfl rfl dX6_restore_48 ?_
        refine z_get (pc := 49) hX (T := TX6) (C := RX6) (N := 17) (i := 7) (ref := "SignLettersModel") (name := "s") (desc := "[I") hX6_restore_X6 1 rfl rfl 1 (by decide) kX6_restore_f7 ⟨rfl, rfl, rfl⟩ (v := .ref s1) rfl dX6_restore_49 ?_
        refine z_bipush (pc := 52) hX (z := 7) (by decide +kernel) dX6_restore_52 ?_
        refine z_iald (pc := 54) hX (N := 48) (F := S1) 3 rfl (by omega) (by omega) dX6_restore_54 ?_
        refine z_at [0, 1] [1, 2, 3, 0] (loc' := [(0, .ref m), (1, .int (iI (i)))]) (WS' := [(m, .inr (6, [.int (iI (0)), .ref s1, .ref s2, .int (iI (pSz sm + 1)), .ref s3, .int (iI (bI (hs = true))), .ref s4, .int (iI (len)), .ref m1, .ref m2, .ref m3, .ref m4, .int (iI (ax)), .ref l1, .ref l2, .int (iI (rm)), .long (hh)])), (s2, zI G 288 (svS V sm S)), (s1, zI G 48 (S1)), (s3, zI G 48 (T))]) rfl (by decide) rfl ?_
        refine z_arrX (N := 48) (F := S1) (F1 := T) (WS1 := [(m, .inr (6, [.int (iI (0)), .ref s1, .ref s2, .int (iI (pSz sm + 1)), .ref s3, .int (iI (bI (hs = true))), .ref s4, .int (iI (len)), .ref m1, .ref m2, .ref m3, .ref m4, .int (iI (ax)), .ref l1, .ref l2, .int (iI (rm)), .long (hh)])), (s2, zI G 288 (svS V sm S)), (s1, zI G 48 (T)), (s3, zI G 48 (T))]) 2 rfl (fun j hj0 hj1 => by exact hS j hj0 (by omega)) rfl ?_
        exact ex _ _ _ () _ dX6_restore_55 rfl (congrArg iI (show (S1 7 : Int) = T 7 from by exact hS 7 (by omega) (by omega))) rfl
      · refine z_aload_n (pc := 30) hX 0 rfl rfl dX6_restore_30 ?_
        refine z_get (pc := 31) hX (T := TX6) (C := RX6) (N := 17) (i := 7) (ref := "SignLettersModel") (name := "s") (desc := "[I") hX6_restore_X6 1 rfl rfl 1 (by decide) kX6_restore_f7 ⟨rfl, rfl, rfl⟩ (v := .ref s1) rfl dX6_restore_31 ?_
        refine z_iload_n (pc := 34) hX 1 rfl rfl dX6_restore_34 ?_
        refine z_aload_n (pc := 35) hX 0 rfl rfl dX6_restore_35 ?_
        refine z_get (pc := 36) hX (T := TX6) (C := RX6) (N := 17) (i := 16) (ref := "SignLettersModel") (name := "snapshot") (desc := "[I") hX6_restore_X6 1 rfl rfl 4 (by decide) kX6_restore_f16 ⟨rfl, rfl, rfl⟩ (v := .ref s3) rfl dX6_restore_36 ?_
        refine z_iload_n (pc := 39) hX 1 rfl rfl dX6_restore_39 ?_
        refine z_iald (pc := 40) hX (N := 48) (F := T) 0 rfl (by omega) (by omega) dX6_restore_40 ?_
        refine z_iast (pc := 41) hX (N := 48) (F := S1) (WS' := [(s3, zI G 48 (T)), (m, .inr (6, [.int (iI (0)), .ref s1, .ref s2, .int (iI (pSz sm + 1)), .ref s3, .int (iI (bI (hs = true))), .ref s4, .int (iI (len)), .ref m1, .ref m2, .ref m3, .ref m4, .int (iI (ax)), .ref l1, .ref l2, .int (iI (rm)), .long (hh)])), (s2, zI G 288 (svS V sm S)), (s1, zI G 48 (uZ S1 i (T i)))]) 3 rfl (by omega) (by omega) rfl dX6_restore_41 ?_
        refine z_iinc (pc := 42) hX (loc' := [(1, .int (iI (i + 1))), (0, .ref m)]) 1 rfl (by decide) rfl dX6_restore_42 ?_
        refine z_goto (pc := 45) (tgt := 24) hX (by decide) dX6_restore_45 ?_
        refine z_at [1, 0] [0, 1, 2, 3] (loc' := [(0, .ref m), (1, .int (iI ((i + 1))))]) (WS' := [(s3, zI G 48 (T)), (m, .inr (6, [.int (iI (0)), .ref s1, .ref s2, .int (iI (pSz sm + 1)), .ref s3, .int (iI (bI (hs = true))), .ref s4, .int (iI (len)), .ref m1, .ref m2, .ref m3, .ref m4, .int (iI (ax)), .ref l1, .ref l2, .int (iI (rm)), .long (hh)])), (s2, zI G 288 (svS V sm S)), (s1, zI G 48 ((uZ S1 i (T i))))]) rfl (by decide) rfl ?_
        exact ih_24 (i + 1) (uZ S1 i (T i)) (by first | assumption | omega | (clear ex hX ih_24; grind [uZ])) (by first | assumption | omega | (clear ex hX ih_24; grind [uZ])) (by exact uZ_step hS rfl) (by omega)
  refine z_at [1, 0] [0, 1, 2, 3] (loc' := [(0, .ref m), (1, .int (iI (0)))]) (WS' := [(s3, zI G 48 (T)), (m, .inr (6, [.int (iI (0)), .ref s1, .ref s2, .int (iI (pSz sm + 1)), .ref s3, .int (iI (bI (hs = true))), .ref s4, .int (iI (len)), .ref m1, .ref m2, .ref m3, .ref m4, .int (iI (ax)), .ref l1, .ref l2, .int (iI (rm)), .long (hh)])), (s2, zI G 288 (svS V sm S)), (s1, zI G 48 (S))]) rfl (by decide) rfl ?_
  exact cut_24 (Int.toNat (48 - 0) + 1) (0) (S) (by first | assumption | omega | (clear ex hX cut_24; grind [uZ])) (by first | assumption | omega | (clear ex hX cut_24; grind [uZ])) (by intro j j0 j1; omega) (by omega)
set_option maxHeartbeats 400000 in
set_option maxRecDepth 100000 in
theorem mX6_restore_no (G : ZG) (m : Nat) (s1 : Nat) (s2 : Nat) (s3 : Nat) (s4 : Nat) (m1 : Nat) (m2 : Nat) (m3 : Nat) (m4 : Nat) (l1 : Nat) (l2 : Nat) (th : Int) (sm : Int) (len : Int) (ax : Int) (rm : Int) (hs : Bool) (hh : Int64) (S : Int → Int) (hbad : ¬ ((hs = true))) : zMeti yX6_restore wsX6_restore { frames := 1, cells := 0, slots := 0, locals := 21 } G [.ref m] [(m, .inr (6, [.int (iI (th)), .ref s1, .ref s2, .int (iI (sm)), .ref s3, .int (iI (bI (hs = true))), .ref s4, .int (iI (len)), .ref m1, .ref m2, .ref m3, .ref m4, .int (iI (ax)), .ref l1, .ref l2, .int (iI (rm)), .long (hh)]))] (fun (rr : Int32) (uu : Unit) => rr = iI (0)) (fun (uu : Unit) => [(m, .inr (6, [.int (iI (if hs = true then (0) else 1)), .ref s1, .ref s2, .int (iI (sm)), .ref s3, .int (iI (bI (hs = true))), .ref s4, .int (iI (len)), .ref m1, .ref m2, .ref m3, .ref m4, .int (iI (ax)), .ref l1, .ref l2, .int (iI (rm)), .long (hh)]))]) 0 0 := by
  refine z_meti (cc := cX6_restore) (nL := 2) (rt := .int) (by decide +kernel) rfl (Nat.le_of_ble_eq_true rfl) (fun X hX ex => ?_)
  have hX : ZOk G X 2 cX6_restore RX6 wsX6_restore { frames := 1, cells := 0, slots := 0, locals := 21 } := hX
  show Z G X 2 (0) (0) [(m, .inr (6, [.int (iI (th)), .ref s1, .ref s2, .int (iI (sm)), .ref s3, .int (iI (bI (hs = true))), .ref s4, .int (iI (len)), .ref m1, .ref m2, .ref m3, .ref m4, .int (iI (ax)), .ref l1, .ref l2, .int (iI (rm)), .long (hh)]))] 0 [(0, .ref m)] []
  refine z_aload_n (pc := 0) hX 0 rfl rfl dX6_restore_0 ?_
  refine z_iconst (pc := 1) hX dX6_restore_1 ?_
  refine z_put (pc := 2) hX (T := TX6) (C := RX6) (N := 17) (i := 40) (ref := "SignLettersModel") (name := "thrown") (desc := "I") (WS' := [(m, .inr (6, [.int (iI (0)), .ref s1, .ref s2, .int (iI (sm)), .ref s3, .int (iI (bI (hs = true))), .ref s4, .int (iI (len)), .ref m1, .ref m2, .ref m3, .ref m4, .int (iI (ax)), .ref l1, .ref l2, .int (iI (rm)), .long (hh)]))]) tyX6 tyX6_ok nmX6 hX6_restore_X6 0 rfl rfl 0 (by decide) kX6_restore_f40 ⟨rfl, rfl, rfl⟩ rfl (ty := .int) (by decide +kernel) rfl rfl (Nat.le_of_ble_eq_true rfl) rfl dX6_restore_2 ?_
  refine z_aload_n (pc := 5) hX 0 rfl rfl dX6_restore_5 ?_
  refine z_get (pc := 6) hX (T := TX6) (C := RX6) (N := 17) (i := 139) (ref := "SignLettersModel") (name := "hasSnapshot") (desc := "Z") hX6_restore_X6 0 rfl rfl 5 (by decide) kX6_restore_f139 ⟨rfl, rfl, rfl⟩ (v := .int (iI (bI (hs = true)))) rfl dX6_restore_6 ?_
  refine z_bif_ne (pc := 9) (tgt := 18) hX (by decide) dX6_restore_9 (fun c_1 => ?_) (fun c_1 => ?_)
  · exact absurd (by assumption) hbad
  · refine z_aload_n (pc := 12) hX 0 rfl rfl dX6_restore_12 ?_
    refine z_iconst (pc := 13) hX dX6_restore_13 ?_
    refine z_callV_i (pc := 14) (As := [.int (iI (1))]) (rest := []) (wc := [(m, .inr (6, [.int (iI (0)), .ref s1, .ref s2, .int (iI (sm)), .ref s3, .int (iI (bI (hs = true))), .ref s4, .int (iI (len)), .ref m1, .ref m2, .ref m3, .ref m4, .int (iI (ax)), .ref l1, .ref l2, .int (iI (rm)), .long (hh)]))]) (wr := []) hX (mX6_fails G (m) (s1) (s2) (s3) (s4) (m1) (m2) (m3) (m4) (l1) (l2) (0) (sm) (len) (ax) (rm) (hs) (hh) (S) (1) ) rfl rfl rfl (C := RX6) gX6_restore_X6_fails ⟨rfl, hdX6_fails⟩ (T := TX6) (N := 17) 0 rfl rfl ⟨Nat.le_of_ble_eq_true rfl, Nat.le_of_ble_eq_true rfl⟩ [0] [] rfl rfl (by decide) (by decide) (by decide) rfl (Nat.le_of_ble_eq_true rfl) ⟨Nat.le_of_ble_eq_true rfl, Nat.le_of_ble_eq_true rfl⟩ dX6_restore_14 (fun r_2 u_2 h_2 => ?_)
    subst h_2
    show Z G X 2 (0) (0) [(m, .inr (6, [.int (iI (1)), .ref s1, .ref s2, .int (iI (sm)), .ref s3, .int (iI (bI (hs = true))), .ref s4, .int (iI (len)), .ref m1, .ref m2, .ref m3, .ref m4, .int (iI (ax)), .ref l1, .ref l2, .int (iI (rm)), .long (hh)]))] 17 [(0, .ref m)] [.int (iI (0))]
    refine (congrArg (fun z_ : Int => Z G X 2 (0) (0) [(m, .inr (6, [.int (iI (z_)), .ref s1, .ref s2, .int (iI (sm)), .ref s3, .int (iI (bI (hs = true))), .ref s4, .int (iI (len)), .ref m1, .ref m2, .ref m3, .ref m4, .int (iI (ax)), .ref l1, .ref l2, .int (iI (rm)), .long (hh)]))] 17 [(0, .ref m)] [.int (iI (0))]) (show (1 : Int) = if hs = true then (0) else 1 from by first | rfl | (rw [if_neg (by assumption)]))).mpr ?_
    exact ex _ _ _ () _ dX6_restore_17 rfl rfl rfl
theorem hX6_letter_X6 : ∀ w ∈ wsX60, w ∈ wsX6_letter := by decide +kernel
theorem kX6_letter_f40 : Cond.fieldLink RX6 40 "SignLettersModel" "thrown" "I" ∈ wsX6_letter := by decide +kernel
set_option maxHeartbeats 400000 in
set_option maxRecDepth 100000 in
theorem mX6_letter_ok (G : ZG) (m : Nat) (s1 : Nat) (s2 : Nat) (s3 : Nat) (s4 : Nat) (m1 : Nat) (m2 : Nat) (m3 : Nat) (m4 : Nat) (l1 : Nat) (l2 : Nat) (th : Int) (sm : Int) (len : Int) (ax : Int) (rm : Int) (hs : Bool) (hh : Int64) (S : Int → Int) (q : Int) (w : Int) (hq : -2147483648 ≤ q ∧ q < 2147483648) (hw : -2147483648 ≤ w ∧ w < 2147483648) (ok1 : 0 ≤ q ∧ q < 26) (ok2 : 0 ≤ w ∧ w < 3) : zMeti yX6_letter wsX6_letter { frames := 1, cells := 0, slots := 0, locals := 22 } G [.ref m, .int (iI (q)), .int (iI (w))] [(m, .inr (6, [.int (iI (th)), .ref s1, .ref s2, .int (iI (sm)), .ref s3, .int (iI (bI (hs = true))), .ref s4, .int (iI (len)), .ref m1, .ref m2, .ref m3, .ref m4, .int (iI (ax)), .ref l1, .ref l2, .int (iI (rm)), .long (hh)]))] (fun (rr : Int32) (uu : Unit) => rr = iI (if w = 0 then wdI q else if w = 1 then q % 4 else (3 * q + 1) % 4)) (fun (uu : Unit) => [(m, .inr (6, [.int (iI (0)), .ref s1, .ref s2, .int (iI (sm)), .ref s3, .int (iI (bI (hs = true))), .ref s4, .int (iI (len)), .ref m1, .ref m2, .ref m3, .ref m4, .int (iI (ax)), .ref l1, .ref l2, .int (iI (rm)), .long (hh)]))]) 0 0 := by
  refine z_meti (cc := cX6_letter) (nL := 3) (rt := .int) (by decide +kernel) rfl (Nat.le_of_ble_eq_true rfl) (fun X hX ex => ?_)
  have hX : ZOk G X 3 cX6_letter RX6 wsX6_letter { frames := 1, cells := 0, slots := 0, locals := 22 } := hX
  show Z G X 3 (0) (0) [(m, .inr (6, [.int (iI (th)), .ref s1, .ref s2, .int (iI (sm)), .ref s3, .int (iI (bI (hs = true))), .ref s4, .int (iI (len)), .ref m1, .ref m2, .ref m3, .ref m4, .int (iI (ax)), .ref l1, .ref l2, .int (iI (rm)), .long (hh)]))] 0 [(0, .ref m), (1, .int (iI (q))), (2, .int (iI (w)))] []
  have ok1b : 0 ≤ q ∧ q ≤ 25 := by omega
  refine z_aload_n (pc := 0) hX 0 rfl rfl dX6_letter_0 ?_
  refine z_iconst (pc := 1) hX dX6_letter_1 ?_
  refine z_put (pc := 2) hX (T := TX6) (C := RX6) (N := 17) (i := 40) (ref := "SignLettersModel") (name := "thrown") (desc := "I") (WS' := [(m, .inr (6, [.int (iI (0)), .ref s1, .ref s2, .int (iI (sm)), .ref s3, .int (iI (bI (hs = true))), .ref s4, .int (iI (len)), .ref m1, .ref m2, .ref m3, .ref m4, .int (iI (ax)), .ref l1, .ref l2, .int (iI (rm)), .long (hh)]))]) tyX6 tyX6_ok nmX6 hX6_letter_X6 0 rfl rfl 0 (by decide) kX6_letter_f40 ⟨rfl, rfl, rfl⟩ rfl (ty := .int) (by decide +kernel) rfl rfl (Nat.le_of_ble_eq_true rfl) rfl dX6_letter_2 ?_
  refine z_iload_n (pc := 5) hX 1 rfl rfl dX6_letter_5 ?_
  refine z_iconst (pc := 6) hX dX6_letter_6 ?_
  refine z_bipush (pc := 7) hX (z := 25) (by decide +kernel) dX6_letter_7 ?_
  refine z_callS_i (pc := 9) (As := [.int (iI (q)), .int (iI (0)), .int (iI (25))]) (rest := []) (wc := []) (wr := [(m, .inr (6, [.int (iI (0)), .ref s1, .ref s2, .int (iI (sm)), .ref s3, .int (iI (bI (hs = true))), .ref s4, .int (iI (len)), .ref m1, .ref m2, .ref m3, .ref m4, .int (iI (ax)), .ref l1, .ref l2, .int (iI (rm)), .long (hh)]))]) hX (mX6_in G (q) (0) (25) (by first | assumption | omega | (clear ex hX; grind [uZ])) (by first | assumption | omega | (clear ex hX; grind [uZ])) (by first | assumption | omega | (clear ex hX; grind [uZ]))) rfl rfl rfl gX6_letter_X6_in hdX6_in ⟨Nat.le_of_ble_eq_true rfl, Nat.le_of_ble_eq_true rfl⟩ [] [0] rfl rfl (by decide) (by decide) (by decide) rfl (Nat.le_of_ble_eq_true rfl) ⟨Nat.le_of_ble_eq_true rfl, Nat.le_of_ble_eq_true rfl⟩ dX6_letter_9 (fun r_1 u_1 h_1 => ?_)
  subst h_1
  show Z G X 3 (0) (0) [(m, .inr (6, [.int (iI (0)), .ref s1, .ref s2, .int (iI (sm)), .ref s3, .int (iI (bI (hs = true))), .ref s4, .int (iI (len)), .ref m1, .ref m2, .ref m3, .ref m4, .int (iI (ax)), .ref l1, .ref l2, .int (iI (rm)), .long (hh)]))] 12 [(0, .ref m), (1, .int (iI (q))), (2, .int (iI (w)))] [.int (iI (bI (0 ≤ q ∧ q ≤ 25)))]
  refine z_bif_ne (pc := 12) (tgt := 21) hX (by decide) dX6_letter_12 (fun c_2 => ?_) (fun c_2 => by first | exact absurd c_2 ok1b | exact absurd ok1b c_2)
  refine z_iload_n (pc := 21) hX 2 rfl rfl dX6_letter_21 ?_
  by_cases c_3 : w = 0
  · refine z_tblIn (pc := 22) (tgt := 48) (off := 26) hX (by omega) (by omega) (by rw [c_3]; rfl) (by decide) dX6_letter_22 ?_
    refine z_iload_n (pc := 48) hX 1 rfl rfl dX6_letter_48 ?_
    refine z_callS_i (pc := 49) (As := [.int (iI (q))]) (rest := []) (wc := []) (wr := [(m, .inr (6, [.int (iI (0)), .ref s1, .ref s2, .int (iI (sm)), .ref s3, .int (iI (bI (hs = true))), .ref s4, .int (iI (len)), .ref m1, .ref m2, .ref m3, .ref m4, .int (iI (ax)), .ref l1, .ref l2, .int (iI (rm)), .long (hh)]))]) hX (mX6_widthOf G (q) (by first | assumption | omega | (clear ex hX; grind [uZ]))) rfl rfl rfl gX6_letter_X6_widthOf hdX6_widthOf ⟨Nat.le_of_ble_eq_true rfl, Nat.le_of_ble_eq_true rfl⟩ [] [0] rfl rfl (by decide) (by decide) (by decide) rfl (Nat.le_of_ble_eq_true rfl) ⟨Nat.le_of_ble_eq_true rfl, Nat.le_of_ble_eq_true rfl⟩ dX6_letter_49 (fun r_4 u_4 h_4 => ?_)
    subst h_4
    show Z G X 3 (0) (0) [(m, .inr (6, [.int (iI (0)), .ref s1, .ref s2, .int (iI (sm)), .ref s3, .int (iI (bI (hs = true))), .ref s4, .int (iI (len)), .ref m1, .ref m2, .ref m3, .ref m4, .int (iI (ax)), .ref l1, .ref l2, .int (iI (rm)), .long (hh)]))] 52 [(0, .ref m), (1, .int (iI (q))), (2, .int (iI (w)))] [.int (iI (wdI q))]
    exact ex _ _ _ () _ dX6_letter_52 rfl (congrArg iI (show (wdI q : Int) = if w = 0 then wdI q else if w = 1 then q % 4 else (3 * q + 1) % 4 from by first | (rw [if_pos (by omega)]; done) | (rw [if_neg (by omega), if_pos (by omega)]; done) | (rw [if_neg (by omega), if_neg (by omega)]; done) | (exfalso; omega))) rfl
  by_cases c_5 : w = 1
  · refine z_tblIn (pc := 22) (tgt := 53) (off := 31) hX (by omega) (by omega) (by rw [c_5]; rfl) (by decide) dX6_letter_22 ?_
    refine z_iload_n (pc := 53) hX 1 rfl rfl dX6_letter_53 ?_
    refine z_callS_i (pc := 54) (As := [.int (iI (q))]) (rest := []) (wc := []) (wr := [(m, .inr (6, [.int (iI (0)), .ref s1, .ref s2, .int (iI (sm)), .ref s3, .int (iI (bI (hs = true))), .ref s4, .int (iI (len)), .ref m1, .ref m2, .ref m3, .ref m4, .int (iI (ax)), .ref l1, .ref l2, .int (iI (rm)), .long (hh)]))]) hX (mX6_leftShape G (q) (by first | assumption | omega | (clear ex hX; grind [uZ]))) rfl rfl rfl gX6_letter_X6_leftShape hdX6_leftShape ⟨Nat.le_of_ble_eq_true rfl, Nat.le_of_ble_eq_true rfl⟩ [] [0] rfl rfl (by decide) (by decide) (by decide) rfl (Nat.le_of_ble_eq_true rfl) ⟨Nat.le_of_ble_eq_true rfl, Nat.le_of_ble_eq_true rfl⟩ dX6_letter_54 (fun r_6 u_6 h_6 => ?_)
    subst h_6
    show Z G X 3 (0) (0) [(m, .inr (6, [.int (iI (0)), .ref s1, .ref s2, .int (iI (sm)), .ref s3, .int (iI (bI (hs = true))), .ref s4, .int (iI (len)), .ref m1, .ref m2, .ref m3, .ref m4, .int (iI (ax)), .ref l1, .ref l2, .int (iI (rm)), .long (hh)]))] 57 [(0, .ref m), (1, .int (iI (q))), (2, .int (iI (w)))] [.int (iI (q % 4))]
    exact ex _ _ _ () _ dX6_letter_57 rfl (congrArg iI (show (q % 4 : Int) = if w = 0 then wdI q else if w = 1 then q % 4 else (3 * q + 1) % 4 from by first | (rw [if_pos (by omega)]; done) | (rw [if_neg (by omega), if_pos (by omega)]; done) | (rw [if_neg (by omega), if_neg (by omega)]; done) | (exfalso; omega))) rfl
  by_cases c_7 : w = 2
  · refine z_tblIn (pc := 22) (tgt := 58) (off := 36) hX (by omega) (by omega) (by rw [c_7]; rfl) (by decide) dX6_letter_22 ?_
    refine z_iload_n (pc := 58) hX 1 rfl rfl dX6_letter_58 ?_
    refine z_callS_i (pc := 59) (As := [.int (iI (q))]) (rest := []) (wc := []) (wr := [(m, .inr (6, [.int (iI (0)), .ref s1, .ref s2, .int (iI (sm)), .ref s3, .int (iI (bI (hs = true))), .ref s4, .int (iI (len)), .ref m1, .ref m2, .ref m3, .ref m4, .int (iI (ax)), .ref l1, .ref l2, .int (iI (rm)), .long (hh)]))]) hX (mX6_rightShape G (q) (by first | assumption | omega | (clear ex hX; grind [uZ]))) rfl rfl rfl gX6_letter_X6_rightShape hdX6_rightShape ⟨Nat.le_of_ble_eq_true rfl, Nat.le_of_ble_eq_true rfl⟩ [] [0] rfl rfl (by decide) (by decide) (by decide) rfl (Nat.le_of_ble_eq_true rfl) ⟨Nat.le_of_ble_eq_true rfl, Nat.le_of_ble_eq_true rfl⟩ dX6_letter_59 (fun r_8 u_8 h_8 => ?_)
    subst h_8
    show Z G X 3 (0) (0) [(m, .inr (6, [.int (iI (0)), .ref s1, .ref s2, .int (iI (sm)), .ref s3, .int (iI (bI (hs = true))), .ref s4, .int (iI (len)), .ref m1, .ref m2, .ref m3, .ref m4, .int (iI (ax)), .ref l1, .ref l2, .int (iI (rm)), .long (hh)]))] 62 [(0, .ref m), (1, .int (iI (q))), (2, .int (iI (w)))] [.int (iI ((3 * q + 1) % 4))]
    exact ex _ _ _ () _ dX6_letter_62 rfl (congrArg iI (show ((3 * q + 1) % 4 : Int) = if w = 0 then wdI q else if w = 1 then q % 4 else (3 * q + 1) % 4 from by first | (rw [if_pos (by omega)]; done) | (rw [if_neg (by omega), if_pos (by omega)]; done) | (rw [if_neg (by omega), if_neg (by omega)]; done) | (exfalso; omega))) rfl
  refine z_tblOut (pc := 22) (tgt := 63) hX (by omega) (by omega) (by decide) dX6_letter_22 ?_
  refine z_aload_n (pc := 63) hX 0 rfl rfl dX6_letter_63 ?_
  refine z_iconst (pc := 64) hX dX6_letter_64 ?_
  refine z_callV_i (pc := 65) (As := [.int (iI (2))]) (rest := []) (wc := [(m, .inr (6, [.int (iI (0)), .ref s1, .ref s2, .int (iI (sm)), .ref s3, .int (iI (bI (hs = true))), .ref s4, .int (iI (len)), .ref m1, .ref m2, .ref m3, .ref m4, .int (iI (ax)), .ref l1, .ref l2, .int (iI (rm)), .long (hh)]))]) (wr := []) hX (mX6_fails G (m) (s1) (s2) (s3) (s4) (m1) (m2) (m3) (m4) (l1) (l2) (0) (sm) (len) (ax) (rm) (hs) (hh) (S) (2) ) rfl rfl rfl (C := RX6) gX6_letter_X6_fails ⟨rfl, hdX6_fails⟩ (T := TX6) (N := 17) 0 rfl rfl ⟨Nat.le_of_ble_eq_true rfl, Nat.le_of_ble_eq_true rfl⟩ [0] [] rfl rfl (by decide) (by decide) (by decide) rfl (Nat.le_of_ble_eq_true rfl) ⟨Nat.le_of_ble_eq_true rfl, Nat.le_of_ble_eq_true rfl⟩ dX6_letter_65 (fun r_9 u_9 h_9 => ?_)
  subst h_9
  show Z G X 3 (0) (0) [(m, .inr (6, [.int (iI (2)), .ref s1, .ref s2, .int (iI (sm)), .ref s3, .int (iI (bI (hs = true))), .ref s4, .int (iI (len)), .ref m1, .ref m2, .ref m3, .ref m4, .int (iI (ax)), .ref l1, .ref l2, .int (iI (rm)), .long (hh)]))] 68 [(0, .ref m), (1, .int (iI (q))), (2, .int (iI (w)))] [.int (iI (0))]
  refine (congrArg (fun z_ : Int => Z G X 3 (0) (0) [(m, .inr (6, [.int (iI (z_)), .ref s1, .ref s2, .int (iI (sm)), .ref s3, .int (iI (bI (hs = true))), .ref s4, .int (iI (len)), .ref m1, .ref m2, .ref m3, .ref m4, .int (iI (ax)), .ref l1, .ref l2, .int (iI (rm)), .long (hh)]))] 68 [(0, .ref m), (1, .int (iI (q))), (2, .int (iI (w)))] [.int (iI (0))]) (show (2 : Int) = 0 from by first | rfl | (exfalso; omega))).mpr ?_
  exact ex _ _ _ () _ dX6_letter_68 rfl (congrArg iI (show (0 : Int) = if w = 0 then wdI q else if w = 1 then q % 4 else (3 * q + 1) % 4 from by first | (rw [if_pos (by omega)]; done) | (rw [if_neg (by omega), if_pos (by omega)]; done) | (rw [if_neg (by omega), if_neg (by omega)]; done) | (exfalso; omega))) rfl
set_option maxHeartbeats 400000 in
set_option maxRecDepth 100000 in
theorem mX6_letter_no (G : ZG) (m : Nat) (s1 : Nat) (s2 : Nat) (s3 : Nat) (s4 : Nat) (m1 : Nat) (m2 : Nat) (m3 : Nat) (m4 : Nat) (l1 : Nat) (l2 : Nat) (th : Int) (sm : Int) (len : Int) (ax : Int) (rm : Int) (hs : Bool) (hh : Int64) (S : Int → Int) (q : Int) (w : Int) (hq : -2147483648 ≤ q ∧ q < 2147483648) (hw : -2147483648 ≤ w ∧ w < 2147483648) (hbad : ¬ ((0 ≤ q ∧ q < 26) ∧ (0 ≤ w ∧ w < 3))) : zMeti yX6_letter wsX6_letter { frames := 1, cells := 0, slots := 0, locals := 22 } G [.ref m, .int (iI (q)), .int (iI (w))] [(m, .inr (6, [.int (iI (th)), .ref s1, .ref s2, .int (iI (sm)), .ref s3, .int (iI (bI (hs = true))), .ref s4, .int (iI (len)), .ref m1, .ref m2, .ref m3, .ref m4, .int (iI (ax)), .ref l1, .ref l2, .int (iI (rm)), .long (hh)]))] (fun (rr : Int32) (uu : Unit) => rr = iI (0)) (fun (uu : Unit) => [(m, .inr (6, [.int (iI (if 0 ≤ q ∧ q < 26 then (if 0 ≤ w ∧ w < 3 then (0) else 2) else 1)), .ref s1, .ref s2, .int (iI (sm)), .ref s3, .int (iI (bI (hs = true))), .ref s4, .int (iI (len)), .ref m1, .ref m2, .ref m3, .ref m4, .int (iI (ax)), .ref l1, .ref l2, .int (iI (rm)), .long (hh)]))]) 0 0 := by
  refine z_meti (cc := cX6_letter) (nL := 3) (rt := .int) (by decide +kernel) rfl (Nat.le_of_ble_eq_true rfl) (fun X hX ex => ?_)
  have hX : ZOk G X 3 cX6_letter RX6 wsX6_letter { frames := 1, cells := 0, slots := 0, locals := 22 } := hX
  show Z G X 3 (0) (0) [(m, .inr (6, [.int (iI (th)), .ref s1, .ref s2, .int (iI (sm)), .ref s3, .int (iI (bI (hs = true))), .ref s4, .int (iI (len)), .ref m1, .ref m2, .ref m3, .ref m4, .int (iI (ax)), .ref l1, .ref l2, .int (iI (rm)), .long (hh)]))] 0 [(0, .ref m), (1, .int (iI (q))), (2, .int (iI (w)))] []
  refine z_aload_n (pc := 0) hX 0 rfl rfl dX6_letter_0 ?_
  refine z_iconst (pc := 1) hX dX6_letter_1 ?_
  refine z_put (pc := 2) hX (T := TX6) (C := RX6) (N := 17) (i := 40) (ref := "SignLettersModel") (name := "thrown") (desc := "I") (WS' := [(m, .inr (6, [.int (iI (0)), .ref s1, .ref s2, .int (iI (sm)), .ref s3, .int (iI (bI (hs = true))), .ref s4, .int (iI (len)), .ref m1, .ref m2, .ref m3, .ref m4, .int (iI (ax)), .ref l1, .ref l2, .int (iI (rm)), .long (hh)]))]) tyX6 tyX6_ok nmX6 hX6_letter_X6 0 rfl rfl 0 (by decide) kX6_letter_f40 ⟨rfl, rfl, rfl⟩ rfl (ty := .int) (by decide +kernel) rfl rfl (Nat.le_of_ble_eq_true rfl) rfl dX6_letter_2 ?_
  refine z_iload_n (pc := 5) hX 1 rfl rfl dX6_letter_5 ?_
  refine z_iconst (pc := 6) hX dX6_letter_6 ?_
  refine z_bipush (pc := 7) hX (z := 25) (by decide +kernel) dX6_letter_7 ?_
  refine z_callS_i (pc := 9) (As := [.int (iI (q)), .int (iI (0)), .int (iI (25))]) (rest := []) (wc := []) (wr := [(m, .inr (6, [.int (iI (0)), .ref s1, .ref s2, .int (iI (sm)), .ref s3, .int (iI (bI (hs = true))), .ref s4, .int (iI (len)), .ref m1, .ref m2, .ref m3, .ref m4, .int (iI (ax)), .ref l1, .ref l2, .int (iI (rm)), .long (hh)]))]) hX (mX6_in G (q) (0) (25) (by first | assumption | omega | (clear ex hX; grind [uZ])) (by first | assumption | omega | (clear ex hX; grind [uZ])) (by first | assumption | omega | (clear ex hX; grind [uZ]))) rfl rfl rfl gX6_letter_X6_in hdX6_in ⟨Nat.le_of_ble_eq_true rfl, Nat.le_of_ble_eq_true rfl⟩ [] [0] rfl rfl (by decide) (by decide) (by decide) rfl (Nat.le_of_ble_eq_true rfl) ⟨Nat.le_of_ble_eq_true rfl, Nat.le_of_ble_eq_true rfl⟩ dX6_letter_9 (fun r_1 u_1 h_1 => ?_)
  subst h_1
  show Z G X 3 (0) (0) [(m, .inr (6, [.int (iI (0)), .ref s1, .ref s2, .int (iI (sm)), .ref s3, .int (iI (bI (hs = true))), .ref s4, .int (iI (len)), .ref m1, .ref m2, .ref m3, .ref m4, .int (iI (ax)), .ref l1, .ref l2, .int (iI (rm)), .long (hh)]))] 12 [(0, .ref m), (1, .int (iI (q))), (2, .int (iI (w)))] [.int (iI (bI (0 ≤ q ∧ q ≤ 25)))]
  refine z_bif_ne (pc := 12) (tgt := 21) hX (by decide) dX6_letter_12 (fun c_2 => ?_) (fun c_2 => ?_)
  · refine z_iload_n (pc := 21) hX 2 rfl rfl dX6_letter_21 ?_
    by_cases c_3 : w = 0
    · refine z_tblIn (pc := 22) (tgt := 48) (off := 26) hX (by omega) (by omega) (by rw [c_3]; rfl) (by decide) dX6_letter_22 ?_
      exfalso; omega
    by_cases c_4 : w = 1
    · refine z_tblIn (pc := 22) (tgt := 53) (off := 31) hX (by omega) (by omega) (by rw [c_4]; rfl) (by decide) dX6_letter_22 ?_
      exfalso; omega
    by_cases c_5 : w = 2
    · refine z_tblIn (pc := 22) (tgt := 58) (off := 36) hX (by omega) (by omega) (by rw [c_5]; rfl) (by decide) dX6_letter_22 ?_
      exfalso; omega
    refine z_tblOut (pc := 22) (tgt := 63) hX (by omega) (by omega) (by decide) dX6_letter_22 ?_
    refine z_aload_n (pc := 63) hX 0 rfl rfl dX6_letter_63 ?_
    refine z_iconst (pc := 64) hX dX6_letter_64 ?_
    refine z_callV_i (pc := 65) (As := [.int (iI (2))]) (rest := []) (wc := [(m, .inr (6, [.int (iI (0)), .ref s1, .ref s2, .int (iI (sm)), .ref s3, .int (iI (bI (hs = true))), .ref s4, .int (iI (len)), .ref m1, .ref m2, .ref m3, .ref m4, .int (iI (ax)), .ref l1, .ref l2, .int (iI (rm)), .long (hh)]))]) (wr := []) hX (mX6_fails G (m) (s1) (s2) (s3) (s4) (m1) (m2) (m3) (m4) (l1) (l2) (0) (sm) (len) (ax) (rm) (hs) (hh) (S) (2) ) rfl rfl rfl (C := RX6) gX6_letter_X6_fails ⟨rfl, hdX6_fails⟩ (T := TX6) (N := 17) 0 rfl rfl ⟨Nat.le_of_ble_eq_true rfl, Nat.le_of_ble_eq_true rfl⟩ [0] [] rfl rfl (by decide) (by decide) (by decide) rfl (Nat.le_of_ble_eq_true rfl) ⟨Nat.le_of_ble_eq_true rfl, Nat.le_of_ble_eq_true rfl⟩ dX6_letter_65 (fun r_6 u_6 h_6 => ?_)
    subst h_6
    show Z G X 3 (0) (0) [(m, .inr (6, [.int (iI (2)), .ref s1, .ref s2, .int (iI (sm)), .ref s3, .int (iI (bI (hs = true))), .ref s4, .int (iI (len)), .ref m1, .ref m2, .ref m3, .ref m4, .int (iI (ax)), .ref l1, .ref l2, .int (iI (rm)), .long (hh)]))] 68 [(0, .ref m), (1, .int (iI (q))), (2, .int (iI (w)))] [.int (iI (0))]
    refine (congrArg (fun z_ : Int => Z G X 3 (0) (0) [(m, .inr (6, [.int (iI (z_)), .ref s1, .ref s2, .int (iI (sm)), .ref s3, .int (iI (bI (hs = true))), .ref s4, .int (iI (len)), .ref m1, .ref m2, .ref m3, .ref m4, .int (iI (ax)), .ref l1, .ref l2, .int (iI (rm)), .long (hh)]))] 68 [(0, .ref m), (1, .int (iI (q))), (2, .int (iI (w)))] [.int (iI (0))]) (show (2 : Int) = if 0 ≤ q ∧ q < 26 then (if 0 ≤ w ∧ w < 3 then (0) else 2) else 1 from by first | rfl | (rw [if_neg (by omega)]; done) | (rw [if_pos (by omega), if_neg (by omega)]; done) | (rw [if_pos (by omega), if_pos (by omega), if_neg (by omega)]; done) | (rw [if_pos (by omega), if_pos (by omega), if_pos (by omega)]; done))).mpr ?_
    exact ex _ _ _ () _ dX6_letter_68 rfl rfl rfl
  · refine z_aload_n (pc := 15) hX 0 rfl rfl dX6_letter_15 ?_
    refine z_iconst (pc := 16) hX dX6_letter_16 ?_
    refine z_callV_i (pc := 17) (As := [.int (iI (1))]) (rest := []) (wc := [(m, .inr (6, [.int (iI (0)), .ref s1, .ref s2, .int (iI (sm)), .ref s3, .int (iI (bI (hs = true))), .ref s4, .int (iI (len)), .ref m1, .ref m2, .ref m3, .ref m4, .int (iI (ax)), .ref l1, .ref l2, .int (iI (rm)), .long (hh)]))]) (wr := []) hX (mX6_fails G (m) (s1) (s2) (s3) (s4) (m1) (m2) (m3) (m4) (l1) (l2) (0) (sm) (len) (ax) (rm) (hs) (hh) (S) (1) ) rfl rfl rfl (C := RX6) gX6_letter_X6_fails ⟨rfl, hdX6_fails⟩ (T := TX6) (N := 17) 0 rfl rfl ⟨Nat.le_of_ble_eq_true rfl, Nat.le_of_ble_eq_true rfl⟩ [0] [] rfl rfl (by decide) (by decide) (by decide) rfl (Nat.le_of_ble_eq_true rfl) ⟨Nat.le_of_ble_eq_true rfl, Nat.le_of_ble_eq_true rfl⟩ dX6_letter_17 (fun r_7 u_7 h_7 => ?_)
    subst h_7
    show Z G X 3 (0) (0) [(m, .inr (6, [.int (iI (1)), .ref s1, .ref s2, .int (iI (sm)), .ref s3, .int (iI (bI (hs = true))), .ref s4, .int (iI (len)), .ref m1, .ref m2, .ref m3, .ref m4, .int (iI (ax)), .ref l1, .ref l2, .int (iI (rm)), .long (hh)]))] 20 [(0, .ref m), (1, .int (iI (q))), (2, .int (iI (w)))] [.int (iI (0))]
    refine (congrArg (fun z_ : Int => Z G X 3 (0) (0) [(m, .inr (6, [.int (iI (z_)), .ref s1, .ref s2, .int (iI (sm)), .ref s3, .int (iI (bI (hs = true))), .ref s4, .int (iI (len)), .ref m1, .ref m2, .ref m3, .ref m4, .int (iI (ax)), .ref l1, .ref l2, .int (iI (rm)), .long (hh)]))] 20 [(0, .ref m), (1, .int (iI (q))), (2, .int (iI (w)))] [.int (iI (0))]) (show (1 : Int) = if 0 ≤ q ∧ q < 26 then (if 0 ≤ w ∧ w < 3 then (0) else 2) else 1 from by first | rfl | (rw [if_neg (by omega)]; done) | (rw [if_pos (by omega), if_neg (by omega)]; done) | (rw [if_pos (by omega), if_pos (by omega), if_neg (by omega)]; done) | (rw [if_pos (by omega), if_pos (by omega), if_pos (by omega)]; done))).mpr ?_
    exact ex _ _ _ () _ dX6_letter_20 rfl rfl rfl
theorem hX6_indent_X6 : ∀ w ∈ wsX60, w ∈ wsX6_indent := by decide +kernel
theorem kX6_indent_f40 : Cond.fieldLink RX6 40 "SignLettersModel" "thrown" "I" ∈ wsX6_indent := by decide +kernel
set_option maxHeartbeats 400000 in
set_option maxRecDepth 100000 in
theorem mX6_indent_ok (G : ZG) (m : Nat) (s1 : Nat) (s2 : Nat) (s3 : Nat) (s4 : Nat) (m1 : Nat) (m2 : Nat) (m3 : Nat) (m4 : Nat) (l1 : Nat) (l2 : Nat) (th : Int) (sm : Int) (len : Int) (ax : Int) (rm : Int) (hs : Bool) (hh : Int64) (S : Int → Int) (q : Int) (w : Int) (hE : okE S) (hq : -2147483648 ≤ q ∧ q < 2147483648) (hw : -2147483648 ≤ w ∧ w < 2147483648) (ok1 : (0 ≤ q ∧ q < 4) ∧ (0 ≤ w ∧ w < 10)) : zMeti yX6_indent wsX6_indent { frames := 2, cells := 0, slots := 0, locals := 46 } G [.ref m, .int (iI (q)), .int (iI (w))] [(m, .inr (6, [.int (iI (th)), .ref s1, .ref s2, .int (iI (sm)), .ref s3, .int (iI (bI (hs = true))), .ref s4, .int (iI (len)), .ref m1, .ref m2, .ref m3, .ref m4, .int (iI (ax)), .ref l1, .ref l2, .int (iI (rm)), .long (hh)])), (s1, zI G 48 (S))] (fun (rr : Int32) (uu : Unit) => rr = iI (bIn q w (S 0))) (fun (uu : Unit) => [(m, .inr (6, [.int (iI (0)), .ref s1, .ref s2, .int (iI (sm)), .ref s3, .int (iI (bI (hs = true))), .ref s4, .int (iI (len)), .ref m1, .ref m2, .ref m3, .ref m4, .int (iI (ax)), .ref l1, .ref l2, .int (iI (rm)), .long (hh)])), (s1, zI G 48 (S))]) 0 0 := by
  refine z_meti (cc := cX6_indent) (nL := 3) (rt := .int) (by decide +kernel) rfl (Nat.le_of_ble_eq_true rfl) (fun X hX ex => ?_)
  have hX : ZOk G X 3 cX6_indent RX6 wsX6_indent { frames := 2, cells := 0, slots := 0, locals := 46 } := hX
  show Z G X 3 (0) (0) [(m, .inr (6, [.int (iI (th)), .ref s1, .ref s2, .int (iI (sm)), .ref s3, .int (iI (bI (hs = true))), .ref s4, .int (iI (len)), .ref m1, .ref m2, .ref m3, .ref m4, .int (iI (ax)), .ref l1, .ref l2, .int (iI (rm)), .long (hh)])), (s1, zI G 48 (S))] 0 [(0, .ref m), (1, .int (iI (q))), (2, .int (iI (w)))] []
  have ok1b : 0 ≤ q ∧ q ≤ 3 := by omega
  have ok2b : 0 ≤ w ∧ w ≤ 9 := by omega
  refine z_aload_n (pc := 0) hX 0 rfl rfl dX6_indent_0 ?_
  refine z_iconst (pc := 1) hX dX6_indent_1 ?_
  refine z_put (pc := 2) hX (T := TX6) (C := RX6) (N := 17) (i := 40) (ref := "SignLettersModel") (name := "thrown") (desc := "I") (WS' := [(m, .inr (6, [.int (iI (0)), .ref s1, .ref s2, .int (iI (sm)), .ref s3, .int (iI (bI (hs = true))), .ref s4, .int (iI (len)), .ref m1, .ref m2, .ref m3, .ref m4, .int (iI (ax)), .ref l1, .ref l2, .int (iI (rm)), .long (hh)])), (s1, zI G 48 (S))]) tyX6 tyX6_ok nmX6 hX6_indent_X6 0 rfl rfl 0 (by decide) kX6_indent_f40 ⟨rfl, rfl, rfl⟩ rfl (ty := .int) (by decide +kernel) rfl rfl (Nat.le_of_ble_eq_true rfl) rfl dX6_indent_2 ?_
  refine z_iload_n (pc := 5) hX 1 rfl rfl dX6_indent_5 ?_
  refine z_iconst (pc := 6) hX dX6_indent_6 ?_
  refine z_iconst (pc := 7) hX dX6_indent_7 ?_
  refine z_callS_i (pc := 8) (As := [.int (iI (q)), .int (iI (0)), .int (iI (3))]) (rest := []) (wc := []) (wr := [(m, .inr (6, [.int (iI (0)), .ref s1, .ref s2, .int (iI (sm)), .ref s3, .int (iI (bI (hs = true))), .ref s4, .int (iI (len)), .ref m1, .ref m2, .ref m3, .ref m4, .int (iI (ax)), .ref l1, .ref l2, .int (iI (rm)), .long (hh)])), (s1, zI G 48 (S))]) hX (mX6_in G (q) (0) (3) (by first | assumption | omega | (clear ex hX; grind [uZ])) (by first | assumption | omega | (clear ex hX; grind [uZ])) (by first | assumption | omega | (clear ex hX; grind [uZ]))) rfl rfl rfl gX6_indent_X6_in hdX6_in ⟨Nat.le_of_ble_eq_true rfl, Nat.le_of_ble_eq_true rfl⟩ [] [0, 1] rfl rfl (by decide) (by decide) (by decide) rfl (Nat.le_of_ble_eq_true rfl) ⟨Nat.le_of_ble_eq_true rfl, Nat.le_of_ble_eq_true rfl⟩ dX6_indent_8 (fun r_1 u_1 h_1 => ?_)
  subst h_1
  show Z G X 3 (0) (0) [(m, .inr (6, [.int (iI (0)), .ref s1, .ref s2, .int (iI (sm)), .ref s3, .int (iI (bI (hs = true))), .ref s4, .int (iI (len)), .ref m1, .ref m2, .ref m3, .ref m4, .int (iI (ax)), .ref l1, .ref l2, .int (iI (rm)), .long (hh)])), (s1, zI G 48 (S))] 11 [(0, .ref m), (1, .int (iI (q))), (2, .int (iI (w)))] [.int (iI (bI (0 ≤ q ∧ q ≤ 3)))]
  refine z_bif_eq (pc := 11) (tgt := 33) hX (by decide) dX6_indent_11 (fun c_2 => by first | exact absurd c_2 ok1b | exact absurd ok1b c_2) (fun c_2 => ?_)
  refine z_iload_n (pc := 14) hX 2 rfl rfl dX6_indent_14 ?_
  refine z_iconst (pc := 15) hX dX6_indent_15 ?_
  refine z_bipush (pc := 16) hX (z := 9) (by decide +kernel) dX6_indent_16 ?_
  refine z_callS_i (pc := 18) (As := [.int (iI (w)), .int (iI (0)), .int (iI (9))]) (rest := []) (wc := []) (wr := [(m, .inr (6, [.int (iI (0)), .ref s1, .ref s2, .int (iI (sm)), .ref s3, .int (iI (bI (hs = true))), .ref s4, .int (iI (len)), .ref m1, .ref m2, .ref m3, .ref m4, .int (iI (ax)), .ref l1, .ref l2, .int (iI (rm)), .long (hh)])), (s1, zI G 48 (S))]) hX (mX6_in G (w) (0) (9) (by first | assumption | omega | (clear ex hX; grind [uZ])) (by first | assumption | omega | (clear ex hX; grind [uZ])) (by first | assumption | omega | (clear ex hX; grind [uZ]))) rfl rfl rfl gX6_indent_X6_in hdX6_in ⟨Nat.le_of_ble_eq_true rfl, Nat.le_of_ble_eq_true rfl⟩ [] [0, 1] rfl rfl (by decide) (by decide) (by decide) rfl (Nat.le_of_ble_eq_true rfl) ⟨Nat.le_of_ble_eq_true rfl, Nat.le_of_ble_eq_true rfl⟩ dX6_indent_18 (fun r_3 u_3 h_3 => ?_)
  subst h_3
  show Z G X 3 (0) (0) [(m, .inr (6, [.int (iI (0)), .ref s1, .ref s2, .int (iI (sm)), .ref s3, .int (iI (bI (hs = true))), .ref s4, .int (iI (len)), .ref m1, .ref m2, .ref m3, .ref m4, .int (iI (ax)), .ref l1, .ref l2, .int (iI (rm)), .long (hh)])), (s1, zI G 48 (S))] 21 [(0, .ref m), (1, .int (iI (q))), (2, .int (iI (w)))] [.int (iI (bI (0 ≤ w ∧ w ≤ 9)))]
  refine z_bif_eq (pc := 21) (tgt := 33) hX (by decide) dX6_indent_21 (fun c_4 => by first | exact absurd c_4 ok2b | exact absurd ok2b c_4) (fun c_4 => ?_)
  refine z_aload_n (pc := 24) hX 0 rfl rfl dX6_indent_24 ?_
  refine z_iload_n (pc := 25) hX 1 rfl rfl dX6_indent_25 ?_
  refine z_iload_n (pc := 26) hX 2 rfl rfl dX6_indent_26 ?_
  refine z_callV_i (pc := 27) (As := [.int (iI (q)), .int (iI (w))]) (rest := []) (wc := [(m, .inr (6, [.int (iI (0)), .ref s1, .ref s2, .int (iI (sm)), .ref s3, .int (iI (bI (hs = true))), .ref s4, .int (iI (len)), .ref m1, .ref m2, .ref m3, .ref m4, .int (iI (ax)), .ref l1, .ref l2, .int (iI (rm)), .long (hh)])), (s1, zI G 48 (S))]) (wr := []) hX (mX6_back G (m) (s1) (s2) (s3) (s4) (m1) (m2) (m3) (m4) (l1) (l2) (0) (sm) (len) (ax) (rm) (hs) (hh) (S) (q) (w) (by first | assumption | omega | (clear ex hX; grind [uZ])) (by first | assumption | omega | (clear ex hX; grind [uZ])) (by first | assumption | omega | (clear ex hX; grind [uZ]))) rfl rfl rfl (C := RX6) gX6_indent_X6_back ⟨rfl, hdX6_back⟩ (T := TX6) (N := 17) 0 rfl rfl ⟨Nat.le_of_ble_eq_true rfl, Nat.le_of_ble_eq_true rfl⟩ [0, 1] [] rfl rfl (by decide) (by decide) (by decide) rfl (Nat.le_of_ble_eq_true rfl) ⟨Nat.le_of_ble_eq_true rfl, Nat.le_of_ble_eq_true rfl⟩ dX6_indent_27 (fun r_5 u_5 h_5 => ?_)
  subst h_5
  show Z G X 3 (0) (0) [(m, .inr (6, [.int (iI (0)), .ref s1, .ref s2, .int (iI (sm)), .ref s3, .int (iI (bI (hs = true))), .ref s4, .int (iI (len)), .ref m1, .ref m2, .ref m3, .ref m4, .int (iI (ax)), .ref l1, .ref l2, .int (iI (rm)), .long (hh)])), (s1, zI G 48 (S))] 30 [(0, .ref m), (1, .int (iI (q))), (2, .int (iI (w)))] [.int (iI (bIn q w (S 0)))]
  refine z_goto (pc := 30) (tgt := 38) hX (by decide) dX6_indent_30 ?_
  exact ex _ _ _ () _ dX6_indent_38 rfl rfl rfl
set_option maxHeartbeats 400000 in
set_option maxRecDepth 100000 in
theorem mX6_indent_no (G : ZG) (m : Nat) (s1 : Nat) (s2 : Nat) (s3 : Nat) (s4 : Nat) (m1 : Nat) (m2 : Nat) (m3 : Nat) (m4 : Nat) (l1 : Nat) (l2 : Nat) (th : Int) (sm : Int) (len : Int) (ax : Int) (rm : Int) (hs : Bool) (hh : Int64) (S : Int → Int) (q : Int) (w : Int) (hq : -2147483648 ≤ q ∧ q < 2147483648) (hw : -2147483648 ≤ w ∧ w < 2147483648) (hbad : ¬ (((0 ≤ q ∧ q < 4) ∧ (0 ≤ w ∧ w < 10)))) : zMeti yX6_indent wsX6_indent { frames := 1, cells := 0, slots := 0, locals := 22 } G [.ref m, .int (iI (q)), .int (iI (w))] [(m, .inr (6, [.int (iI (th)), .ref s1, .ref s2, .int (iI (sm)), .ref s3, .int (iI (bI (hs = true))), .ref s4, .int (iI (len)), .ref m1, .ref m2, .ref m3, .ref m4, .int (iI (ax)), .ref l1, .ref l2, .int (iI (rm)), .long (hh)]))] (fun (rr : Int32) (uu : Unit) => rr = iI (0)) (fun (uu : Unit) => [(m, .inr (6, [.int (iI (if (0 ≤ q ∧ q < 4) ∧ (0 ≤ w ∧ w < 10) then (0) else 1)), .ref s1, .ref s2, .int (iI (sm)), .ref s3, .int (iI (bI (hs = true))), .ref s4, .int (iI (len)), .ref m1, .ref m2, .ref m3, .ref m4, .int (iI (ax)), .ref l1, .ref l2, .int (iI (rm)), .long (hh)]))]) 0 0 := by
  refine z_meti (cc := cX6_indent) (nL := 3) (rt := .int) (by decide +kernel) rfl (Nat.le_of_ble_eq_true rfl) (fun X hX ex => ?_)
  have hX : ZOk G X 3 cX6_indent RX6 wsX6_indent { frames := 1, cells := 0, slots := 0, locals := 22 } := hX
  show Z G X 3 (0) (0) [(m, .inr (6, [.int (iI (th)), .ref s1, .ref s2, .int (iI (sm)), .ref s3, .int (iI (bI (hs = true))), .ref s4, .int (iI (len)), .ref m1, .ref m2, .ref m3, .ref m4, .int (iI (ax)), .ref l1, .ref l2, .int (iI (rm)), .long (hh)]))] 0 [(0, .ref m), (1, .int (iI (q))), (2, .int (iI (w)))] []
  refine z_aload_n (pc := 0) hX 0 rfl rfl dX6_indent_0 ?_
  refine z_iconst (pc := 1) hX dX6_indent_1 ?_
  refine z_put (pc := 2) hX (T := TX6) (C := RX6) (N := 17) (i := 40) (ref := "SignLettersModel") (name := "thrown") (desc := "I") (WS' := [(m, .inr (6, [.int (iI (0)), .ref s1, .ref s2, .int (iI (sm)), .ref s3, .int (iI (bI (hs = true))), .ref s4, .int (iI (len)), .ref m1, .ref m2, .ref m3, .ref m4, .int (iI (ax)), .ref l1, .ref l2, .int (iI (rm)), .long (hh)]))]) tyX6 tyX6_ok nmX6 hX6_indent_X6 0 rfl rfl 0 (by decide) kX6_indent_f40 ⟨rfl, rfl, rfl⟩ rfl (ty := .int) (by decide +kernel) rfl rfl (Nat.le_of_ble_eq_true rfl) rfl dX6_indent_2 ?_
  refine z_iload_n (pc := 5) hX 1 rfl rfl dX6_indent_5 ?_
  refine z_iconst (pc := 6) hX dX6_indent_6 ?_
  refine z_iconst (pc := 7) hX dX6_indent_7 ?_
  refine z_callS_i (pc := 8) (As := [.int (iI (q)), .int (iI (0)), .int (iI (3))]) (rest := []) (wc := []) (wr := [(m, .inr (6, [.int (iI (0)), .ref s1, .ref s2, .int (iI (sm)), .ref s3, .int (iI (bI (hs = true))), .ref s4, .int (iI (len)), .ref m1, .ref m2, .ref m3, .ref m4, .int (iI (ax)), .ref l1, .ref l2, .int (iI (rm)), .long (hh)]))]) hX (mX6_in G (q) (0) (3) (by first | assumption | omega | (clear ex hX; grind [uZ])) (by first | assumption | omega | (clear ex hX; grind [uZ])) (by first | assumption | omega | (clear ex hX; grind [uZ]))) rfl rfl rfl gX6_indent_X6_in hdX6_in ⟨Nat.le_of_ble_eq_true rfl, Nat.le_of_ble_eq_true rfl⟩ [] [0] rfl rfl (by decide) (by decide) (by decide) rfl (Nat.le_of_ble_eq_true rfl) ⟨Nat.le_of_ble_eq_true rfl, Nat.le_of_ble_eq_true rfl⟩ dX6_indent_8 (fun r_1 u_1 h_1 => ?_)
  subst h_1
  show Z G X 3 (0) (0) [(m, .inr (6, [.int (iI (0)), .ref s1, .ref s2, .int (iI (sm)), .ref s3, .int (iI (bI (hs = true))), .ref s4, .int (iI (len)), .ref m1, .ref m2, .ref m3, .ref m4, .int (iI (ax)), .ref l1, .ref l2, .int (iI (rm)), .long (hh)]))] 11 [(0, .ref m), (1, .int (iI (q))), (2, .int (iI (w)))] [.int (iI (bI (0 ≤ q ∧ q ≤ 3)))]
  refine z_bif_eq (pc := 11) (tgt := 33) hX (by decide) dX6_indent_11 (fun c_2 => ?_) (fun c_2 => ?_)
  · refine z_aload_n (pc := 33) hX 0 rfl rfl dX6_indent_33 ?_
    refine z_iconst (pc := 34) hX dX6_indent_34 ?_
    refine z_callV_i (pc := 35) (As := [.int (iI (1))]) (rest := []) (wc := [(m, .inr (6, [.int (iI (0)), .ref s1, .ref s2, .int (iI (sm)), .ref s3, .int (iI (bI (hs = true))), .ref s4, .int (iI (len)), .ref m1, .ref m2, .ref m3, .ref m4, .int (iI (ax)), .ref l1, .ref l2, .int (iI (rm)), .long (hh)]))]) (wr := []) hX (mX6_fails G (m) (s1) (s2) (s3) (s4) (m1) (m2) (m3) (m4) (l1) (l2) (0) (sm) (len) (ax) (rm) (hs) (hh) (S) (1) ) rfl rfl rfl (C := RX6) gX6_indent_X6_fails ⟨rfl, hdX6_fails⟩ (T := TX6) (N := 17) 0 rfl rfl ⟨Nat.le_of_ble_eq_true rfl, Nat.le_of_ble_eq_true rfl⟩ [0] [] rfl rfl (by decide) (by decide) (by decide) rfl (Nat.le_of_ble_eq_true rfl) ⟨Nat.le_of_ble_eq_true rfl, Nat.le_of_ble_eq_true rfl⟩ dX6_indent_35 (fun r_3 u_3 h_3 => ?_)
    subst h_3
    show Z G X 3 (0) (0) [(m, .inr (6, [.int (iI (1)), .ref s1, .ref s2, .int (iI (sm)), .ref s3, .int (iI (bI (hs = true))), .ref s4, .int (iI (len)), .ref m1, .ref m2, .ref m3, .ref m4, .int (iI (ax)), .ref l1, .ref l2, .int (iI (rm)), .long (hh)]))] 38 [(0, .ref m), (1, .int (iI (q))), (2, .int (iI (w)))] [.int (iI (0))]
    refine (congrArg (fun z_ : Int => Z G X 3 (0) (0) [(m, .inr (6, [.int (iI (z_)), .ref s1, .ref s2, .int (iI (sm)), .ref s3, .int (iI (bI (hs = true))), .ref s4, .int (iI (len)), .ref m1, .ref m2, .ref m3, .ref m4, .int (iI (ax)), .ref l1, .ref l2, .int (iI (rm)), .long (hh)]))] 38 [(0, .ref m), (1, .int (iI (q))), (2, .int (iI (w)))] [.int (iI (0))]) (show (1 : Int) = if (0 ≤ q ∧ q < 4) ∧ (0 ≤ w ∧ w < 10) then (0) else 1 from by first | rfl | (rw [if_neg (by omega)]; done) | (rw [if_pos (by omega), if_neg (by omega)]; done) | (rw [if_pos (by omega), if_pos (by omega), if_neg (by omega)]; done) | (rw [if_pos (by omega), if_pos (by omega), if_pos (by omega)]; done))).mpr ?_
    exact ex _ _ _ () _ dX6_indent_38 rfl rfl rfl
  · refine z_iload_n (pc := 14) hX 2 rfl rfl dX6_indent_14 ?_
    refine z_iconst (pc := 15) hX dX6_indent_15 ?_
    refine z_bipush (pc := 16) hX (z := 9) (by decide +kernel) dX6_indent_16 ?_
    refine z_callS_i (pc := 18) (As := [.int (iI (w)), .int (iI (0)), .int (iI (9))]) (rest := []) (wc := []) (wr := [(m, .inr (6, [.int (iI (0)), .ref s1, .ref s2, .int (iI (sm)), .ref s3, .int (iI (bI (hs = true))), .ref s4, .int (iI (len)), .ref m1, .ref m2, .ref m3, .ref m4, .int (iI (ax)), .ref l1, .ref l2, .int (iI (rm)), .long (hh)]))]) hX (mX6_in G (w) (0) (9) (by first | assumption | omega | (clear ex hX; grind [uZ])) (by first | assumption | omega | (clear ex hX; grind [uZ])) (by first | assumption | omega | (clear ex hX; grind [uZ]))) rfl rfl rfl gX6_indent_X6_in hdX6_in ⟨Nat.le_of_ble_eq_true rfl, Nat.le_of_ble_eq_true rfl⟩ [] [0] rfl rfl (by decide) (by decide) (by decide) rfl (Nat.le_of_ble_eq_true rfl) ⟨Nat.le_of_ble_eq_true rfl, Nat.le_of_ble_eq_true rfl⟩ dX6_indent_18 (fun r_4 u_4 h_4 => ?_)
    subst h_4
    show Z G X 3 (0) (0) [(m, .inr (6, [.int (iI (0)), .ref s1, .ref s2, .int (iI (sm)), .ref s3, .int (iI (bI (hs = true))), .ref s4, .int (iI (len)), .ref m1, .ref m2, .ref m3, .ref m4, .int (iI (ax)), .ref l1, .ref l2, .int (iI (rm)), .long (hh)]))] 21 [(0, .ref m), (1, .int (iI (q))), (2, .int (iI (w)))] [.int (iI (bI (0 ≤ w ∧ w ≤ 9)))]
    refine z_bif_eq (pc := 21) (tgt := 33) hX (by decide) dX6_indent_21 (fun c_5 => ?_) (fun c_5 => ?_)
    · refine z_aload_n (pc := 33) hX 0 rfl rfl dX6_indent_33 ?_
      refine z_iconst (pc := 34) hX dX6_indent_34 ?_
      refine z_callV_i (pc := 35) (As := [.int (iI (1))]) (rest := []) (wc := [(m, .inr (6, [.int (iI (0)), .ref s1, .ref s2, .int (iI (sm)), .ref s3, .int (iI (bI (hs = true))), .ref s4, .int (iI (len)), .ref m1, .ref m2, .ref m3, .ref m4, .int (iI (ax)), .ref l1, .ref l2, .int (iI (rm)), .long (hh)]))]) (wr := []) hX (mX6_fails G (m) (s1) (s2) (s3) (s4) (m1) (m2) (m3) (m4) (l1) (l2) (0) (sm) (len) (ax) (rm) (hs) (hh) (S) (1) ) rfl rfl rfl (C := RX6) gX6_indent_X6_fails ⟨rfl, hdX6_fails⟩ (T := TX6) (N := 17) 0 rfl rfl ⟨Nat.le_of_ble_eq_true rfl, Nat.le_of_ble_eq_true rfl⟩ [0] [] rfl rfl (by decide) (by decide) (by decide) rfl (Nat.le_of_ble_eq_true rfl) ⟨Nat.le_of_ble_eq_true rfl, Nat.le_of_ble_eq_true rfl⟩ dX6_indent_35 (fun r_6 u_6 h_6 => ?_)
      subst h_6
      show Z G X 3 (0) (0) [(m, .inr (6, [.int (iI (1)), .ref s1, .ref s2, .int (iI (sm)), .ref s3, .int (iI (bI (hs = true))), .ref s4, .int (iI (len)), .ref m1, .ref m2, .ref m3, .ref m4, .int (iI (ax)), .ref l1, .ref l2, .int (iI (rm)), .long (hh)]))] 38 [(0, .ref m), (1, .int (iI (q))), (2, .int (iI (w)))] [.int (iI (0))]
      refine (congrArg (fun z_ : Int => Z G X 3 (0) (0) [(m, .inr (6, [.int (iI (z_)), .ref s1, .ref s2, .int (iI (sm)), .ref s3, .int (iI (bI (hs = true))), .ref s4, .int (iI (len)), .ref m1, .ref m2, .ref m3, .ref m4, .int (iI (ax)), .ref l1, .ref l2, .int (iI (rm)), .long (hh)]))] 38 [(0, .ref m), (1, .int (iI (q))), (2, .int (iI (w)))] [.int (iI (0))]) (show (1 : Int) = if (0 ≤ q ∧ q < 4) ∧ (0 ≤ w ∧ w < 10) then (0) else 1 from by first | rfl | (rw [if_neg (by omega)]; done) | (rw [if_pos (by omega), if_neg (by omega)]; done) | (rw [if_pos (by omega), if_pos (by omega), if_neg (by omega)]; done) | (rw [if_pos (by omega), if_pos (by omega), if_pos (by omega)]; done))).mpr ?_
      exact ex _ _ _ () _ dX6_indent_38 rfl rfl rfl
    · exfalso; omega
theorem hX6_thrown_X6 : ∀ w ∈ wsX60, w ∈ wsX6_thrown := by decide +kernel
theorem kX6_thrown_f40 : Cond.fieldLink RX6 40 "SignLettersModel" "thrown" "I" ∈ wsX6_thrown := by decide +kernel
set_option maxHeartbeats 400000 in
set_option maxRecDepth 100000 in
theorem mX6_thrown (G : ZG) (m : Nat) (s1 : Nat) (s2 : Nat) (s3 : Nat) (s4 : Nat) (m1 : Nat) (m2 : Nat) (m3 : Nat) (m4 : Nat) (l1 : Nat) (l2 : Nat) (th : Int) (sm : Int) (len : Int) (ax : Int) (rm : Int) (hs : Bool) (hh : Int64) (S : Int → Int)  : zMeti yX6_thrown wsX6_thrown { frames := 0, cells := 0, slots := 0, locals := 0 } G [.ref m] [(m, .inr (6, [.int (iI (th)), .ref s1, .ref s2, .int (iI (sm)), .ref s3, .int (iI (bI (hs = true))), .ref s4, .int (iI (len)), .ref m1, .ref m2, .ref m3, .ref m4, .int (iI (ax)), .ref l1, .ref l2, .int (iI (rm)), .long (hh)]))] (fun (rr : Int32) (uu : Unit) => rr = iI (th)) (fun (uu : Unit) => [(m, .inr (6, [.int (iI (th)), .ref s1, .ref s2, .int (iI (sm)), .ref s3, .int (iI (bI (hs = true))), .ref s4, .int (iI (len)), .ref m1, .ref m2, .ref m3, .ref m4, .int (iI (ax)), .ref l1, .ref l2, .int (iI (rm)), .long (hh)]))]) 0 0 := by
  refine z_meti (cc := cX6_thrown) (nL := 1) (rt := .int) (by decide +kernel) rfl (Nat.le_of_ble_eq_true rfl) (fun X hX ex => ?_)
  have hX : ZOk G X 1 cX6_thrown RX6 wsX6_thrown { frames := 0, cells := 0, slots := 0, locals := 0 } := hX
  show Z G X 1 (0) (0) [(m, .inr (6, [.int (iI (th)), .ref s1, .ref s2, .int (iI (sm)), .ref s3, .int (iI (bI (hs = true))), .ref s4, .int (iI (len)), .ref m1, .ref m2, .ref m3, .ref m4, .int (iI (ax)), .ref l1, .ref l2, .int (iI (rm)), .long (hh)]))] 0 [(0, .ref m)] []
  refine z_aload_n (pc := 0) hX 0 rfl rfl dX6_thrown_0 ?_
  refine z_get (pc := 1) hX (T := TX6) (C := RX6) (N := 17) (i := 40) (ref := "SignLettersModel") (name := "thrown") (desc := "I") hX6_thrown_X6 0 rfl rfl 0 (by decide) kX6_thrown_f40 ⟨rfl, rfl, rfl⟩ (v := .int (iI (th))) rfl dX6_thrown_1 ?_
  exact ex _ _ _ () _ dX6_thrown_4 rfl rfl rfl
