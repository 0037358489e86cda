/-! ===== the law's own rows ===== -/
def sX (xs : Nat → Int32) (j : Int) : Int := (xs j.toNat).toInt
theorem sX_i (xs : Nat → Int32) (j : Int) : iI (sX xs j) = xs j.toNat := Int32.ofInt_toInt _
theorem sX_r (xs : Nat → Int32) (j : Int) : -2147483648 ≤ sX xs j ∧ sX xs j < 2147483648 := by
  have h1 := Int32.le_toInt (xs j.toNat)
  have h2 := Int32.toInt_lt (xs j.toNat)
  unfold sX
  omega
def aN (a : Int) : Int := (iI a &&& iI 31).toInt
theorem aN_i (a : Int) : iI (aN a) = iI a &&& iI 31 := Int32.ofInt_toInt _
theorem aN_r (a : Int) : -2147483648 ≤ aN a ∧ aN a < 2147483648 := by
  have h1 := Int32.le_toInt (iI a &&& iI 31)
  have h2 := Int32.toInt_lt (iI a &&& iI 31)
  unfold aN
  omega
def zScr (X : ZT) (b L : Nat) (xs : Nat → Int32) : Prop := match X with
  | (_, _, _, _, s, _, _, _, _, _, _, A) => va_X b L xs s s.heap ∧ b < s.heap.size ∧ ¬ A b ∧ L ≤ 2048
section ZLaw
variable {G : ZG} {X : ZT} {nL k n : Nat} {cc : ByteArray} {own : String} {Ts : List Cond} {R0 : Room} {WS : va_W} {pc : Nat} {loc : List (Nat × Value)} {st : List Value}
theorem z_sld (hX : ZOk G X nL cc own Ts R0) {b L : Nat} {xs : Nat → Int32} (hS9 : zScr X b L xs) {j : Int} (hj : 0 ≤ j ∧ j < (L : Int)) (d : decode cc pc = .ok (.iaload, 1)) (kk : Z G X nL k n WS (pc + 1) loc (.int (iI (sX xs j)) :: st)) : Z G X nL k n WS pc loc (.int (iI j) :: .ref b :: st) := by
  obtain ⟨p, l, e, R, s, m, args, below, meth, c, Q, A⟩ := X
  obtain ⟨hx, hb, hml, hown, hts, hK, hA, hG, hR, htr, hlo⟩ := hX
  obtain ⟨h1, h2, h3, h4⟩ := hS9
  intro H locs ls hP hD hS hl
  refine va_sld hx hb h1 h2 h3 hS (iI_in hj (by omega)) d ?_
  rw [iI_cl (by omega), ← sX_i xs j]
  exact kk H locs ls hP hD hS hl
theorem z_slen (hX : ZOk G X nL cc own Ts R0) {b L : Nat} {xs : Nat → Int32} (hS9 : zScr X b L xs) (d : decode cc pc = .ok (.arraylength, 1)) (kk : Z G X nL k n WS (pc + 1) loc (.int (iI (L : Int)) :: st)) : Z G X nL k n WS pc loc (.ref b :: st) := by
  obtain ⟨p, l, e, R, s, m, args, below, meth, c, Q, A⟩ := X
  obtain ⟨hx, hb, hml, hown, hts, hK, hA, hG, hR, htr, hlo⟩ := hX
  obtain ⟨h1, h2, h3, h4⟩ := hS9
  intro H locs ls hP hD hS hl
  refine va_slen hx hb h1 h2 h3 hS d ?_
  rw [show Int32.ofNat L = iI (L : Int) from (iI_nat L).symm]
  exact kk H locs ls hP hD hS hl
theorem z_and31 (hX : ZOk G X nL cc own Ts R0) {a : Int} (d : decode cc pc = .ok (.iand, 1)) (kk : Z G X nL k n WS (pc + 1) loc (.int (iI (aN a)) :: st)) : Z G X nL k n WS pc loc (.int (iI 31) :: .int (iI a) :: st) := by
  obtain ⟨p, l, e, R, s, m, args, below, meth, c, Q, A⟩ := X
  obtain ⟨hx, hb, hml, hown, hts, hK, hA, hG, hR, htr, hlo⟩ := hX
  intro H locs ls hP hD hS hl
  exact lv_iand hx hb d (by rw [← aN_i]; exact kk H locs ls hP hD hS hl)
theorem z_lcmpE (hX : ZOk G X nL cc own Ts R0) {a b : Int64} (h : a = b) (d : decode cc pc = .ok (.lcmp, 1)) (kk : Z G X nL k n WS (pc + 1) loc (.int (iI 0) :: st)) : Z G X nL k n WS pc loc (.long b :: .long a :: st) := by
  obtain ⟨p, l, e, R, s, m, args, below, meth, c, Q, A⟩ := X
  obtain ⟨hx, hb, hml, hown, hts, hK, hA, hG, hR, htr, hlo⟩ := hX
  intro H locs ls hP hD hS hl
  subst h
  refine W.lcmp hx hb d ?_
  have e9 : lg_cmp a a = iI 0 := by
    unfold lg_cmp
    simp only [iI]
    first | rfl | (split <;> first | rfl | (split <;> first | rfl | (exfalso; simp_all))) | simp
  rw [e9]
  exact kk H locs ls hP hD hS hl
theorem z_icmpE (hX : ZOk G X nL cc own Ts R0) {a b : Int} {off : Int} {tgt : Nat} (ht : (pc : Int) + off = (tgt : Int)) (h9 : a = b) (d : decode cc pc = .ok (.if_icmp .eq off, 3)) (kt : Z G X nL k n WS tgt loc st) : Z G X nL k n WS pc loc (.int (iI b) :: .int (iI a) :: st) := by
  obtain ⟨p, l, e, R, s, m, args, below, meth, c, Q, A⟩ := X
  obtain ⟨hx, hb, hml, hown, hts, hK, hA, hG, hR, htr, hlo⟩ := hX
  intro H locs ls hP hD hS hl
  exact lv_icmp_eq hx hb d ht (fun _ => kt H locs ls hP hD hS hl) (fun h => absurd (congrArg iI h9) h)
end ZLaw
theorem lw_eq (f : Nat → Int64) {a b : Int} (h : a = b) : (vp_updL f 0 (iI a).toInt64) (Int.toNat 0) = (iI b).toInt64 := by
  rw [h]
  rfl
