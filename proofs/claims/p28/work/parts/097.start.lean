/-! ===== the law from its entry: what the start gives (rows of whole's part 087) ===== -/
theorem zArrI {s : State} {A : Array Value} (h : (Cond.arrayClass .int).before A s = true) : ∃ cA : ClassId, ArrOfT s cA .int ∧ va_RA s cA .int := by
  obtain ⟨c, k, comp, h1, h2, h3⟩ := Cond.arrayClass_spec h
  exact ⟨c, fun n z => ⟨fun k h => (by cases h), k, h2, comp, h3⟩, h1⟩
theorem zArrS {s : State} {A : Array Value} (h : (Cond.arrayOver (.object RX3)).before A s = true) : ∃ cA : ClassId, ArrOfT s cA (.object RX3) ∧ va_RA s cA (.object RX3) := by
  obtain ⟨comp, c, k, h0, h1, h2, h3, h4⟩ := Cond.arrayOver_spec h
  exact ⟨c, fun n z => ⟨fun k h => (by cases h), k, h2, comp, h3⟩, k, comp, h2, h3, h0, h4⟩
theorem zEqi {args : Array Value} {s : State} {tm : Term} {z : Int32} (h : (Cond.eq tm (.int z)).before args s = true) : tm.eval args s none [] s = some (.int z) := by
  cases hv : tm.eval args s none [] s with
  | none => simp [Cond.before, Cond.holds, Cond.value, hv] at h
  | some w =>
    have hz : (Term.int z).eval args s none [] s = some (.int z) := rfl
    simp only [Cond.before, Cond.holds, Cond.value, hv, hz] at h
    cases w <;> simp_all
theorem zSt_of {s : State} {args : Array Value} {n : String} {F : Int → Int} {A : Nat → Prop} (hA : ∀ a : Nat, a < s.heap.size → ¬ A a) (hl : (Cond.laysStatic RX5 n "[I").before args s = true) (hini : (Cond.initialized RX5).before args s = true) (harr : (Cond.arrayOf (.static RX5 n "[I") .int).before args s = true) (hlen : (Cond.eq (.length (.static RX5 n "[I")) (.int 6)).before args s = true) (hel : ∀ j : Nat, j < 6 → (Cond.eq (.elem (.static RX5 n "[I") (.int (Int32.ofNat j))) (.int (aI F j))).before args s = true) : ∃ t : Nat, zSt n t F A s s.heap := by
  obtain ⟨t, h1, h2⟩ := va_Tof (f := fun j => .int (aI F j)) (A := A) (N := 6) (by decide) harr (zEqi hlen) (fun j hj => zEqi (hel j hj)) hA
  exact ⟨t, va_Zof hl hini h1 hA, h2⟩
theorem zNest_in : ∀ w ∈ zNest, w ∈ lw_tbl := by decide +kernel
def zWs : List Cond := [.arrayClass .int, .arrayOver (.object RX3), .laysStatic RX5 "FIRST_SETTINGS" "[I", .laysStatic RX5 "LEAST_SETTINGS" "[I", .laysStatic RX5 "MOST_SETTINGS" "[I", .initialized RX5, .instantiable RX0 17, .instantiable RX1 3, .instantiable RX2 3, .instantiable RX3 5, .instantiable RX4 2, .instantiable RX5 10]
theorem zWs_in : ∀ w ∈ zWs, w ∈ lw_tbl := by decide +kernel
def zFlat (n : String) (F : Int → Int) : List Cond := [.arrayOf (.static RX5 n "[I") .int, .eq (.length (.static RX5 n "[I")) (.int 6), .eq (.elem (.static RX5 n "[I") (.int (Int32.ofNat 0))) (.int (aI F 0)), .eq (.elem (.static RX5 n "[I") (.int (Int32.ofNat 1))) (.int (aI F 1)), .eq (.elem (.static RX5 n "[I") (.int (Int32.ofNat 2))) (.int (aI F 2)), .eq (.elem (.static RX5 n "[I") (.int (Int32.ofNat 3))) (.int (aI F 3)), .eq (.elem (.static RX5 n "[I") (.int (Int32.ofNat 4))) (.int (aI F 4)), .eq (.elem (.static RX5 n "[I") (.int (Int32.ofNat 5))) (.int (aI F 5))]
theorem zFlat_F : ∀ w ∈ zFlat "FIRST_SETTINGS" zFs, w ∈ flatC (Jvm.Cond.and given_1 narrow_1) := by decide +kernel
theorem zFlat_L : ∀ w ∈ zFlat "LEAST_SETTINGS" zLs, w ∈ flatC (Jvm.Cond.and given_1 narrow_1) := by decide +kernel
theorem zFlat_M : ∀ w ∈ zFlat "MOST_SETTINGS" zMs, w ∈ flatC (Jvm.Cond.and given_1 narrow_1) := by decide +kernel
theorem zStat {s : State} {args : Array Value} {n : String} {F : Int → Int} {A : Nat → Prop} (hA : ∀ a : Nat, a < s.heap.size → ¬ A a) (hl : (Cond.laysStatic RX5 n "[I").before args s = true) (hini : (Cond.initialized RX5).before args s = true) (h : ∀ w ∈ zFlat n F, w.before args s = true) : ∃ t : Nat, zSt n t F A s s.heap := by
  unfold zFlat at h
  simp only [List.forall_mem_cons] at h
  obtain ⟨h1, h2, e0, e1, e2, e3, e4, e5, -⟩ := h
  refine zSt_of hA hl hini h1 h2 (fun j hj => ?_)
  rcases (show j = 0 ∨ j = 1 ∨ j = 2 ∨ j = 3 ∨ j = 4 ∨ j = 5 by omega) with rfl | rfl | rfl | rfl | rfl | rfl
  · exact e0
  · exact e1
  · exact e2
  · exact e3
  · exact e4
  · exact e5
