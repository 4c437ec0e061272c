/-! forms of contracts of this place: static (kPs), reading (kPr), writing (kPw, kQw); a call of each form is one row -/
def bI (b : Bool) : Int32 := if b = true then 1 else 0
theorem bI_nar (b : Bool) : narrow .boolean (.int (bI b)) = .int (bI b) := by cases b <;> rfl
theorem bI_0 (b : Bool) : (bI b = 0) = (b = false) := by cases b <;> simp [bI]
theorem bI_inj (a b : Bool) : (bI a = bI b) = (a = b) := by cases a <;> cases b <;> simp [bI]
theorem bI_tt : bI true = 1 := rfl
theorem bI_ff : bI false = 0 := rfl
def kNo : Addr → Prop := fun _ => False
def kPs (As : List Value) : Array Value → State → Prop := fun v _ => v = As.toArray
def kPr (D : va_G) (cl : List vw_C) (tys : List (ClassId × FieldType)) (ws : va_W) (As : List Value) : Array Value → State → Prop := fun v U => v = As.toArray ∧ va_P D cl ws U.heap ∧ va_K D cl tys U
def kPw (D : va_G) (cl : List vw_C) (tys : List (ClassId × FieldType)) (ws : va_W) (As : List Value) : Array Value → State → Prop := fun v U => v = As.toArray ∧ va_P D cl ws U.heap ∧ va_K D cl tys U ∧ va_D (fun _ => True) ws
def kQw (D : va_G) (cl : List vw_C) (r : Option Value) (ws' : va_W) (ad : List Nat) : Array Value → State → Outcome → State → Prop := fun _ st oc t => oc = .returned r ∧ va_P D cl ws' t.heap ∧ va_F (fun q => q ∈ ad) st t
theorem kPs_bl (As : List Value) : FrameBlind (kPs As) := fun _ _ _ _ h => h
theorem kPr_bl (D : va_G) (cl : List vw_C) (tys : List (ClassId × FieldType)) (ws : va_W) (As : List Value) : FrameBlind (kPr D cl tys ws As) := fun a U g mk h => ⟨h.1, h.2.1, va_K.moved (u := U) (U := U.calling g mk a) (Vm.Alike.refl U.vm) h.2.2⟩
theorem kPw_bl (D : va_G) (cl : List vw_C) (tys : List (ClassId × FieldType)) (ws : va_W) (As : List Value) : FrameBlind (kPw D cl tys ws As) := fun a U g mk h => ⟨h.1, h.2.1, va_K.moved (u := U) (U := U.calling g mk a) (Vm.Alike.refl U.vm) h.2.2.1, h.2.2.2⟩
theorem kD_same {A : Nat → Prop} {ws ws' : va_W} (hD : va_D A ws) (h : ws.map Prod.fst = ws'.map Prod.fst) : va_D A ws' := by
  have key : ∀ (k : Nat) (q : Nat × va_E), ws'[k]? = some q → ∃ q0, ws[k]? = some q0 ∧ q0.1 = q.1 := by
    intro k q hk
    have h1 : (ws'.map Prod.fst)[k]? = some q.1 := by rw [List.getElem?_map, hk]; rfl
    rw [← h, List.getElem?_map] at h1
    cases hq : ws[k]? with
    | none => rw [hq] at h1; cases h1
    | some q0 => rw [hq] at h1; exact ⟨q0, rfl, Option.some.inj h1⟩
  refine ⟨fun i j x y hi hj hxy => ?_, fun k q hk => ?_⟩
  · obtain ⟨x0, h1, h2⟩ := key i x hi
    obtain ⟨y0, h3, h4⟩ := key j y hj
    exact hD.1 i j x0 y0 h1 h3 (h2.trans (hxy.trans h4.symm))
  · obtain ⟨q0, h1, h2⟩ := key k q hk
    rw [← h2]
    exact hD.2 k q0 h1
theorem kD_self {A : Nat → Prop} {ws : va_W} (hD : va_D A ws) {ad : List Nat} (had : ws.map Prod.fst = ad) : va_D (fun q => q ∈ ad) ws := ⟨hD.1, fun k q hk => by rw [← had]; exact List.mem_map_of_mem (List.mem_of_getElem? hk)⟩
theorem kP_kept {D : va_G} {cl : List vw_C} {ws : va_W} {H H1 : Heap} {ad adx : List Nat} (hP : va_P D cl ws H) (had : ws.map Prod.fst = ad) (hd : ∀ q, q ∈ ad → q ∉ adx) (h : ∀ q : Nat, q < H.size → q ∉ adx → H1[q]? = H[q]?) : va_P D cl ws H1 :=
  hP.kept (fun k q hk => h q.1 ((hP k q hk).lt) (hd q.1 (by rw [← had]; exact List.mem_map_of_mem (List.mem_of_getElem? hk))))
section KC
variable {p : Program} {l : Launch} {e : Env} {R : Room} {s : State} {m : MethodId} {args : Array Value} {below : List Frame} {meth : Method} {c : Code} {H : Heap} {locs : List Loc} {cells slots : Nat} {Q : State → Prop}
variable {Ts wd : List Cond} {cc bytes : ByteArray} {nL maxL index n pc : Nat} {own C : String} {y : MethodName} {ret : Option FieldType} {rm : Room} {b : Addr} {ls : Array Slot} {st0 : List Value}
variable {D : va_G} {cl : List vw_C} {tys : List (ClassId × FieldType)} {ws ws' : va_W} {A0 : Nat → Prop} {H0 : Heap} {ad : List Nat}
/-- a static method that looks at its arguments alone -/
theorem kc_S {r : Value} (As rest : List Value) (S : CallFix p m c cc nL s args Ts own) (hM : Met l y wd rm (kPs As) (k2_QcV r) 0 0 kNo) (cw : CallB R s args own index y bytes maxL ret wd rm 0 0 n ∧ (Cond.static y).before args s = true) (hn : As.length = n) (hsize : ls.size = nL) (hst : st0 = As.reverse ++ rest) (hW : (rest.map fun v => v.category).sum ≤ 8) (hdg : decode cc pc = .ok (.invokestatic index, 3)) (hf : cells ≤ R.cells ∧ slots ≤ R.slots)
    (kk : W p l e R s m args below meth c H locs cells slots Q (F0 m (pc + 3) ls (r :: rest))) : W p l e R s m args below meth c H locs cells slots Q (F0 m pc ls st0) :=
  W.callV (W.runS (As := As) (rest := rest) S hM cw ⟨kPs_bl As, fun _ _ _ => rfl⟩ rfl hn hsize hst (lv_room hW) hdg hf) kk
/-- a method of an object that reads -/
theorem kc_R {r : Value} (As rest : List Value) (S : CallFix p m c cc nL s args Ts own) (hM : Met l y wd rm (kPr D cl tys ws (.ref b :: As)) (k2_QcV r) 0 0 kNo) (cw : CallW R s args own C index y bytes maxL ret wd rm 0 0 n) (hP : va_P D cl ws H) (hK : va_K D cl tys s) {ci q0 : Nat} {q : vw_C} {fs : List Value} (hc : cl[ci]? = some q) (he : ws[q0]? = some (b, .inr (ci, fs))) (hC : q.1 = C) (hn : As.length = n) (hsize : ls.size = nL) (hst : st0 = As.reverse ++ .ref b :: rest) (hW : (rest.map fun v => v.category).sum ≤ 8) (hdg : decode cc pc = .ok (.invokevirtual index, 3)) (hf : cells ≤ R.cells ∧ slots ≤ R.slots)
    (kk : W p l e R s m args below meth c H locs cells slots Q (F0 m (pc + 3) ls (r :: rest))) : W p l e R s m args below meth c H locs cells slots Q (F0 m pc ls st0) := by
  subst hC
  exact W.callV (W.runV (As := As) (rest := rest) S hM cw ⟨kPr_bl _ _ _ _ _, va_recv hK hP hc he, fun U hU hW => ⟨rfl, by rw [hU]; exact hP, va_K.moved hW.alike hK⟩⟩ rfl hn hsize hst (lv_room hW) hdg hf) kk
/-- a method of an object that writes its own cells, and makes none -/
theorem kc_W {r : Option Value} (As rest : List Value) (S : CallFix p m c cc nL s args Ts own) (hM : Met l y wd rm (kPw D cl tys ws (.ref b :: As)) (kQw D cl r ws' ad) 0 0 (fun q => q ∈ ad)) (cw : CallW R s args own C index y bytes maxL ret wd rm 0 0 n) (hP : va_P D cl ws H) (hK : va_K D cl tys s) (hD : va_D A0 ws) (hS : va_S A0 H0 H locs) (had : ws.map Prod.fst = ad) {ci q0 : Nat} {q : vw_C} {fs : List Value} (hc : cl[ci]? = some q) (he : ws[q0]? = some (b, .inr (ci, fs))) (hC : q.1 = C) (hn : As.length = n) (hsize : ls.size = nL) (hst : st0 = As.reverse ++ .ref b :: rest) (hW : (rest.map fun v => v.category).sum ≤ 8) (hdg : decode cc pc = .ok (.invokevirtual index, 3)) (hf : cells ≤ R.cells ∧ slots ≤ R.slots)
    (kk : ∀ (H1 : Heap) (locs1 : List Loc), va_P D cl ws' H1 → va_S A0 H0 H1 locs1 → (∀ q : Nat, q < H.size → q ∉ ad → H1[q]? = H[q]?) → W p l e R s m args below meth c H1 locs1 cells slots Q (F0 m (pc + 3) ls (r.toList ++ rest))) : W p l e R s m args below meth c H locs cells slots Q (F0 m pc ls st0) := by
  subst hC
  intro T hT X
  have hA : ∀ q : Nat, q ∈ ad → A0 q := by
    intro q hq
    rw [← had] at hq
    obtain ⟨x, hx, rfl⟩ := List.mem_map.mp hq
    obtain ⟨i, hi⟩ := List.getElem?_of_mem hx
    exact hD.2 i x hi
  obtain ⟨v, st₀, t, T', L, h0, X', hL, e1, ⟨hv, hp, hz, hk⟩, st⟩ := W.runV (As := As) (rest := rest) S hM cw ⟨kPw_bl _ _ _ _ _, va_recv hK hP hc he, fun U hU hW => ⟨rfl, by rw [hU]; exact hP, va_K.moved hW.alike hK, hD.weaken (fun _ _ _ _ => trivial)⟩⟩ rfl hn hsize hst (lv_room hW) hdg hf T hT X
  cases hv
  rw [h0] at hz hk
  obtain ⟨t2, a1, b1⟩ := kk T'.heap (locs ++ L) (by rw [e1]; exact hp)
    ⟨Nat.le_trans hS.1 (by rw [e1]; exact hz), fun q h1 h2 => by rw [e1, hk q (Nat.lt_of_lt_of_le h1 hS.1) (fun z => h2 (hA q z))]; exact hS.2.1 q h1 h2, fun q hq => by
      rcases List.mem_append.mp hq with h | h
      · exact hS.2.2 q h
      · exact hA _ (hL q h)⟩ (fun q h1 h2 => by rw [e1]; exact hk q h1 h2) T' rfl X'
  exact ⟨t2, st t2 a1, b1⟩
end KC
/-! what the cells of the class and of the reference hold -/
abbrev xW (h0 qa qr qt : Nat) (cI cJ : ClassId) (av : Nat → Int32) (nk : Nat) (rv : Nat → Int32) (nr : Nat) (tv : Nat → Int64) (nt : Nat) (pk : Int32) (pn : Int64) : va_W :=
  [(h0, .inr (0, [.ref qa, .int (nI nk), .ref qr, .int (nI nr), .ref qt, .int (nI nt), .int pk, .long pn])), (qa, .inl (cI, 32, .inl av)), (qr, .inl (cI, 20, .inl rv)), (qt, .inl (cJ, 300, .inr (.inl tv)))]
abbrev mW (g0 gp gr gm gl gw gn : Nat) (cI : ClassId) (pv : Nat → Int32) (nc : Nat) (tr tm tp : Nat → Int32) (mt : Nat) (wv : Nat → Int32) (nw : Nat) (re : Int32) (nm : Nat) (np : Nat → Int32) (kk : Int32) (kn : Int64) : va_W :=
  [(g0, .inr (1, [.ref gp, .int (nI nc), .ref gr, .ref gm, .ref gl, .int (nI mt), .ref gw, .int (nI nw), .int re, .int (nI nm), .ref gn, .int kk, .long kn])), (gp, .inl (cI, 12, .inl pv)), (gr, .inl (cI, 300, .inl tr)), (gm, .inl (cI, 300, .inl tm)), (gl, .inl (cI, 3000, .inl tp)), (gw, .inl (cI, 20, .inl wv)), (gn, .inl (cI, 32, .inl np))]
section KV
variable {p : Program} {l : Launch} {e : Env} {R : Room} {s : State} {m : MethodId} {args : Array Value} {below : List Frame} {meth : Method} {c : Code} {H : Heap} {locs : List Loc} {cells slots : Nat} {Q : State → Prop} {pc : Nat} {ls : Array Slot} {rest : List Value}
theorem kv_topi {x y : Int32} (h : x = y) (k : W p l e R s m args below meth c H locs cells slots Q (F0 m pc ls (.int y :: rest))) : W p l e R s m args below meth c H locs cells slots Q (F0 m pc ls (.int x :: rest)) := by
  subst h
  exact k
theorem kv_topl {x y : Int64} (h : x = y) (k : W p l e R s m args below meth c H locs cells slots Q (F0 m pc ls (.long y :: rest))) : W p l e R s m args below meth c H locs cells slots Q (F0 m pc ls (.long x :: rest)) := by
  subst h
  exact k
end KV
