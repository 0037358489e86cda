section ZRows2
variable {G : ZG} {X : ZT} {nL k n : Nat} {cc : ByteArray} {own : String} {Ts : List Cond} {R0 : Room} {WS : va_W} {pc : Nat} {loc : List (Nat × Value)} {st : List Value}
theorem z_arrX {a N : Nat} {F F1 : Int → Int} {WS1 : va_W} (q0 : Nat) (he : WS[q0]? = some (a, zI G N F)) (hF : ∀ j : Int, 0 ≤ j → j < (N : Int) → F j = F1 j) (hw : WS.set q0 (a, zI G N F1) = WS1) (kk : Z G X nL k n WS1 pc loc st) : Z G X nL k n WS pc loc st := by
  obtain ⟨p, l, e, R, s, m, args, below, meth, c, Q, A⟩ := X
  subst hw
  intro H locs ls hP hD hS hl
  refine kk H locs ls (hP.set hD he ?_ (fun _ _ => rfl)) (hD.set he) hS hl
  have h1 := hP q0 _ he
  show H[a]? = some (vp_cell G.2.1 (N, .inl (aI F1)))
  have h2 : H[a]? = some (vp_cell G.2.1 (N, .inl (aI F))) := h1
  rw [h2, vp_cell_i, vp_cell_i]
  congr 1
  unfold arrV
  congr 1
  congr 1
  funext j
  show Value.int (iI (F j.val)) = Value.int (iI (F1 j.val))
  rw [hF j.val (by omega) (by have := j.isLt; omega)]
theorem z_objInit (hX : ZOk G X nL cc own Ts R0) {i b : Nat} (h1 : Cond.methodLink own i objectInit ∈ Ts) (h2 : Cond.instanceMethod objectInit ∈ Ts) (h3 : Cond.code objectInit ⟨#[0xb1]⟩ 1 none ∈ Ts) (hR : 1 ≤ R0.frames ∧ 12 ≤ R0.locals) (d : decode cc pc = .ok (.invokespecial i, 3)) (kk : Z G X nL k n WS (pc + 3) loc []) : Z G X nL k n WS pc loc [.ref b] := by
  obtain ⟨p, l, e, R, s, m, args, below, meth, c, Q, A⟩ := X
  obtain ⟨hx, hb, hml, hown, hts, hK, hA, hG, hR', htr, hlo⟩ := hX
  intro H locs ls hP hD hS hl
  subst hR'
  refine W.objInit hx hb hown (hts _ h1) (hts _ h2) (hts _ h3) rfl (by rw [hml]; exact hl.1) rfl d hR.1 hR.2 ?_
  exact W.eq rfl (kk H locs ls hP hD hS hl)
end ZRows2
