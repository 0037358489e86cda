/-! ===== the law's own array ===== -/
theorem z_newarrL {G : ZG} {X : ZT} {nL k sl : Nat} {cc : ByteArray} {own : String} {Ts : List Cond} {R0 : Room} {WS : va_W} {pc : Nat} {loc : List (Nat × Value)} {st : List Value} (hX : ZOk G X nL cc own Ts R0) {z : Int} {N : Nat} (hz : z = (N : Int)) (hN : N < 100000) (harr : Cond.arrayClass .long ∈ Ts) (hR1 : k + 1 ≤ R0.cells ∧ sl + N ≤ R0.slots) (d : decode cc pc = .ok (.newarray .long, 2)) (kk : ∀ q : Nat, Z G X nL (k + 1) (sl + N) (WS ++ [(q, .inl (G.2.2.2.1, N, .inr (.inl (fun _ => 0))))]) (pc + 2) loc (.ref q :: st)) : Z G X nL k sl WS pc loc (.int (iI z) :: st) := by
  obtain ⟨p, l, e, R, s, m, args, below, meth, c, Q, A⟩ := X
  obtain ⟨hx, hb, hml, hown, hts, hK, hA, hG, hR, htr, hlo⟩ := hX
  subst hz
  subst hR
  intro H locs ls hP hD hS hl
  have e1 : ¬ iI (N : Int) < 0 := by
    rw [iI_0, iI_lt (by omega) (by omega)]; omega
  have e2 : (iI (N : Int)).toNatClampNeg = N := by rw [iI_cl (by omega)]; omega
  refine va_newaK hx hb (atype := .long) (hts _ harr) (g := F0 m pc ls (.int (iI (N : Int)) :: st)) rfl d rfl e1 e2 (by show N * 8 ≤ 536870912; omega) hR1.1 hR1.2 rfl fun H1 cA e1 z1 o1 hAr hNm => ?_
  have hcA : cA = G.2.2.2.1 := by
    have h9 := (hK.2 2 (G.2.2.2.1, .long) rfl).2
    exact Option.some.inj (hNm.symm.trans h9)
  subst hcA
  have hk : ∀ (k : Nat) (x : Nat × va_E), WS[k]? = some x → H1[x.1]? = H[x.1]? := fun k x hx => o1 x.1 ((hP k x hx).lt)
  refine kk H.size H1 locs ls ((hP.kept hk).app (fun k x hx => ?_)) (hD.push hP rfl (hA _ hS.1)) ⟨Nat.le_trans hS.1 (by omega), fun x h1 h2 => (o1 x (Nat.lt_of_lt_of_le h1 hS.1)).trans (hS.2.1 x h1 h2), hS.2.2⟩ hl
  have hz : k < 1 := (List.getElem?_eq_some_iff.mp hx).1
  rw [show k = 0 by omega] at hx
  cases hx
  show H1[H.size]? = some (vp_cell G.2.2.2.1 (N, .inr (.inl (fun _ => 0))))
  rw [e1]
  rfl
/-! ===== the law from its entry: what the start gives ===== -/
theorem zArrI {s : State} {A : Array Value} (h : (Cond.arrayClass .int).before A s = true) : ∃ cA : ClassId, ArrOfT s cA .int ∧ va_RA s cA .int := by
  obtain ⟨c, k, comp, h1, h2, h3⟩ := Cond.arrayClass_spec h
  exact ⟨c, fun n z => ⟨fun k h => (by cases h), k, h2, comp, h3⟩, h1⟩
theorem zArrL {s : State} {A : Array Value} (h : (Cond.arrayClass .long).before A s = true) : ∃ cA : ClassId, ArrOfT s cA .long ∧ va_RA s cA .long := by
  obtain ⟨c, k, comp, h1, h2, h3⟩ := Cond.arrayClass_spec h
  exact ⟨c, fun n z => ⟨fun k h => (by cases h), k, h2, comp, h3⟩, h1⟩
theorem zArrS {s : State} {A : Array Value} (h : (Cond.arrayOver (.object RX3)).before A s = true) : ∃ cA : ClassId, ArrOfT s cA (.object RX3) ∧ va_RA s cA (.object RX3) := by
  obtain ⟨comp, c, k, h0, h1, h2, h3, h4⟩ := Cond.arrayOver_spec h
  exact ⟨c, fun n z => ⟨fun k h => (by cases h), k, h2, comp, h3⟩, k, comp, h2, h3, h0, h4⟩
theorem zEqi {args : Array Value} {s : State} {tm : Term} {z : Int32} (h : (Cond.eq tm (.int z)).before args s = true) : tm.eval args s none [] s = some (.int z) := by
  cases hv : tm.eval args s none [] s with
  | none => simp [Cond.before, Cond.holds, Cond.value, hv] at h
  | some w =>
    have hz : (Term.int z).eval args s none [] s = some (.int z) := rfl
    simp only [Cond.before, Cond.holds, Cond.value, hv, hz] at h
    cases w <;> simp_all
theorem zSt_of {s : State} {args : Array Value} {n : String} {F : Int → Int} {A : Nat → Prop} (hA : ∀ a : Nat, a < s.heap.size → ¬ A a) (hl : (Cond.laysStatic RX5 n "[I").before args s = true) (hini : (Cond.initialized RX5).before args s = true) (harr : (Cond.arrayOf (.static RX5 n "[I") .int).before args s = true) (hlen : (Cond.eq (.length (.static RX5 n "[I")) (.int 6)).before args s = true) (hel : ∀ j : Nat, j < 6 → (Cond.eq (.elem (.static RX5 n "[I") (.int (Int32.ofNat j))) (.int (aI F j))).before args s = true) : ∃ t : Nat, zSt n t F A s s.heap := by
  obtain ⟨t, h1, h2⟩ := va_Tof (f := fun j => .int (aI F j)) (A := A) (N := 6) (by decide) harr (zEqi hlen) (fun j hj => zEqi (hel j hj)) hA
  exact ⟨t, va_Zof hl hini h1 hA, h2⟩
theorem zNest_in : ∀ w ∈ zNest, w ∈ lw_tbl := by decide +kernel
theorem zThr_in : ∀ w ∈ zThr, w ∈ lw_tbl := by decide +kernel
theorem zNcs_in : ∀ q ∈ zNcs, Cond.not (.castable q.1 q.2) ∈ flatC (Jvm.Cond.and given_1 narrow_1) := by decide +kernel
theorem zStr_in : ∀ q ∈ zStr, Cond.stringRef RX5 q.1 q.2 ∈ lw_tbl ∧ Cond.exactly (.string RX5 q.1) "java/lang/String" ∈ flatC (Jvm.Cond.and given_1 narrow_1) := by decide +kernel
def zWs : List Cond := [.arrayClass .int, .arrayClass .long, .arrayOver (.object RX3), .laysStatic RX5 "FIRST_SETTINGS" "[I", .laysStatic RX5 "LEAST_SETTINGS" "[I", .laysStatic RX5 "MOST_SETTINGS" "[I", .initialized RX5, .laysStatic Bundle.tN "UNASSIGNED_STACK" Bundle.steD, .laysStatic Bundle.tN "SUPPRESSED_SENTINEL" Bundle.listD, .initialized Bundle.tN, .instantiable RX0 17, .instantiable RX1 3, .instantiable RX2 3, .instantiable RX3 5, .instantiable RX4 2, .instantiable RX5 10, .instantiable RX6 17]
theorem zWs_in : ∀ w ∈ zWs, w ∈ lw_tbl := by decide +kernel
def zFlat (n : String) (F : Int → Int) : List Cond := [.arrayOf (.static RX5 n "[I") .int, .eq (.length (.static RX5 n "[I")) (.int 6), .eq (.elem (.static RX5 n "[I") (.int (Int32.ofNat 0))) (.int (aI F 0)), .eq (.elem (.static RX5 n "[I") (.int (Int32.ofNat 1))) (.int (aI F 1)), .eq (.elem (.static RX5 n "[I") (.int (Int32.ofNat 2))) (.int (aI F 2)), .eq (.elem (.static RX5 n "[I") (.int (Int32.ofNat 3))) (.int (aI F 3)), .eq (.elem (.static RX5 n "[I") (.int (Int32.ofNat 4))) (.int (aI F 4)), .eq (.elem (.static RX5 n "[I") (.int (Int32.ofNat 5))) (.int (aI F 5))]
theorem zFlat_F : ∀ w ∈ zFlat "FIRST_SETTINGS" zFs, w ∈ flatC (Jvm.Cond.and given_1 narrow_1) := by decide +kernel
theorem zFlat_L : ∀ w ∈ zFlat "LEAST_SETTINGS" zLs, w ∈ flatC (Jvm.Cond.and given_1 narrow_1) := by decide +kernel
theorem zFlat_M : ∀ w ∈ zFlat "MOST_SETTINGS" zMs, w ∈ flatC (Jvm.Cond.and given_1 narrow_1) := by decide +kernel
theorem zFlat_T : ∀ w ∈ [Cond.isRef (.static Bundle.tN "UNASSIGNED_STACK" Bundle.steD), Cond.isRef (.static Bundle.tN "SUPPRESSED_SENTINEL" Bundle.listD)], w ∈ flatC (Jvm.Cond.and given_1 narrow_1) := by decide +kernel
theorem zStat {s : State} {args : Array Value} {n : String} {F : Int → Int} {A : Nat → Prop} (hA : ∀ a : Nat, a < s.heap.size → ¬ A a) (hl : (Cond.laysStatic RX5 n "[I").before args s = true) (hini : (Cond.initialized RX5).before args s = true) (h : ∀ w ∈ zFlat n F, w.before args s = true) : ∃ t : Nat, zSt n t F A s s.heap := by
  unfold zFlat at h
  simp only [List.forall_mem_cons] at h
  obtain ⟨h1, h2, e0, e1, e2, e3, e4, e5, -⟩ := h
  refine zSt_of hA hl hini h1 h2 (fun j hj => ?_)
  rcases (show j = 0 ∨ j = 1 ∨ j = 2 ∨ j = 3 ∨ j = 4 ∨ j = 5 by omega) with rfl | rfl | rfl | rfl | rfl | rfl
  · exact e0
  · exact e1
  · exact e2
  · exact e3
  · exact e4
  · exact e5
theorem zStr_of {s : State} {args : Array Value} (h : ∀ q ∈ zStr, (Cond.stringRef RX5 q.1 q.2).before args s = true ∧ (Cond.exactly (.string RX5 q.1) "java/lang/String").before args s = true) : ∃ f : Nat → Nat, ∀ q ∈ zStr, vk_R RX5 q.1 q.2 (f q.1) s := by
  refine ⟨fun k => match (Term.string RX5 k).eval args s none [] s with
    | some (.ref a) => a
    | _ => 0, fun q hq => ?_⟩
  obtain ⟨h1, h2⟩ := h q hq
  obtain ⟨a, c, cell, k, ha, -⟩ := Cond.exactly_spec h2
  refine vk_R.of h1 ?_
  dsimp only
  rw [ha]
