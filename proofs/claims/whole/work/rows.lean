section
/-! forms of contracts of this place: static (kPs), reading (kPr), writing (kPw, kQw); a call of each form is one row -/
def bI (b : Bool) : Int32 := if b = true then 1 else 0
theorem bI_nar (b : Bool) : narrow .boolean (.int (bI b)) = .int (bI b) := by cases b <;> rfl
theorem bI_0 (b : Bool) : (bI b = 0) = (b = false) := by cases b <;> simp [bI]
theorem bI_inj (a b : Bool) : (bI a = bI b) = (a = b) := by cases a <;> cases b <;> simp [bI]
theorem bI_tt : bI true = 1 := rfl
theorem bI_ff : bI false = 0 := rfl
def kNo : Addr → Prop := fun _ => False
def kPs (As : List Value) : Array Value → State → Prop := fun v _ => v = As.toArray
def kPr (D : va_G) (cl : List vw_C) (tys : List (ClassId × FieldType)) (ws : va_W) (As : List Value) : Array Value → State → Prop := fun v U => v = As.toArray ∧ va_P D cl ws U.heap ∧ va_K D cl tys U
def kPw (D : va_G) (cl : List vw_C) (tys : List (ClassId × FieldType)) (ws : va_W) (As : List Value) : Array Value → State → Prop := fun v U => v = As.toArray ∧ va_P D cl ws U.heap ∧ va_K D cl tys U ∧ va_D (fun _ => True) ws
def kQw (D : va_G) (cl : List vw_C) (r : Option Value) (ws' : va_W) (ad : List Nat) : Array Value → State → Outcome → State → Prop := fun _ st oc t => oc = .returned r ∧ va_P D cl ws' t.heap ∧ va_F (fun q => q ∈ ad) st t
theorem kPs_bl (As : List Value) : FrameBlind (kPs As) := fun _ _ _ _ h => h
theorem kPr_bl (D : va_G) (cl : List vw_C) (tys : List (ClassId × FieldType)) (ws : va_W) (As : List Value) : FrameBlind (kPr D cl tys ws As) := fun a U g mk h => ⟨h.1, h.2.1, va_K.moved (u := U) (U := U.calling g mk a) (Vm.Alike.refl U.vm) h.2.2⟩
theorem kPw_bl (D : va_G) (cl : List vw_C) (tys : List (ClassId × FieldType)) (ws : va_W) (As : List Value) : FrameBlind (kPw D cl tys ws As) := fun a U g mk h => ⟨h.1, h.2.1, va_K.moved (u := U) (U := U.calling g mk a) (Vm.Alike.refl U.vm) h.2.2.1, h.2.2.2⟩
theorem kD_same {A : Nat → Prop} {ws ws' : va_W} (hD : va_D A ws) (h : ws.map Prod.fst = ws'.map Prod.fst) : va_D A ws' := by
  have key : ∀ (k : Nat) (q : Nat × va_E), ws'[k]? = some q → ∃ q0, ws[k]? = some q0 ∧ q0.1 = q.1 := by
    intro k q hk
    have h1 : (ws'.map Prod.fst)[k]? = some q.1 := by rw [List.getElem?_map, hk]; rfl
    rw [← h, List.getElem?_map] at h1
    cases hq : ws[k]? with
    | none => rw [hq] at h1; cases h1
    | some q0 => rw [hq] at h1; exact ⟨q0, rfl, Option.some.inj h1⟩
  refine ⟨fun i j x y hi hj hxy => ?_, fun k q hk => ?_⟩
  · obtain ⟨x0, h1, h2⟩ := key i x hi
    obtain ⟨y0, h3, h4⟩ := key j y hj
    exact hD.1 i j x0 y0 h1 h3 (h2.trans (hxy.trans h4.symm))
  · obtain ⟨q0, h1, h2⟩ := key k q hk
    rw [← h2]
    exact hD.2 k q0 h1
theorem kD_self {A : Nat → Prop} {ws : va_W} (hD : va_D A ws) {ad : List Nat} (had : ws.map Prod.fst = ad) : va_D (fun q => q ∈ ad) ws := ⟨hD.1, fun k q hk => by rw [← had]; exact List.mem_map_of_mem (List.mem_of_getElem? hk)⟩
theorem kP_kept {D : va_G} {cl : List vw_C} {ws : va_W} {H H1 : Heap} {ad adx : List Nat} (hP : va_P D cl ws H) (had : ws.map Prod.fst = ad) (hd : ∀ q, q ∈ ad → q ∉ adx) (h : ∀ q : Nat, q < H.size → q ∉ adx → H1[q]? = H[q]?) : va_P D cl ws H1 :=
  hP.kept (fun k q hk => h q.1 ((hP k q hk).lt) (hd q.1 (by rw [← had]; exact List.mem_map_of_mem (List.mem_of_getElem? hk))))
section KC
variable {p : Program} {l : Launch} {e : Env} {R : Room} {s : State} {m : MethodId} {args : Array Value} {below : List Frame} {meth : Method} {c : Code} {H : Heap} {locs : List Loc} {cells slots : Nat} {Q : State → Prop}
variable {Ts wd : List Cond} {cc bytes : ByteArray} {nL maxL index n pc : Nat} {own C : String} {y : MethodName} {ret : Option FieldType} {rm : Room} {b : Addr} {ls : Array Slot} {st0 : List Value}
variable {D : va_G} {cl : List vw_C} {tys : List (ClassId × FieldType)} {ws ws' : va_W} {A0 : Nat → Prop} {H0 : Heap} {ad : List Nat}
/-- a static method that looks at its arguments alone -/
theorem kc_S {r : Value} (As rest : List Value) (S : CallFix p m c cc nL s args Ts own) (hM : Met l y wd rm (kPs As) (k2_QcV r) 0 0 kNo) (cw : CallB R s args own index y bytes maxL ret wd rm 0 0 n ∧ (Cond.static y).before args s = true) (hn : As.length = n) (hsize : ls.size = nL) (hst : st0 = As.reverse ++ rest) (hW : (rest.map fun v => v.category).sum ≤ 8) (hdg : decode cc pc = .ok (.invokestatic index, 3)) (hf : cells ≤ R.cells ∧ slots ≤ R.slots)
    (kk : W p l e R s m args below meth c H locs cells slots Q (F0 m (pc + 3) ls (r :: rest))) : W p l e R s m args below meth c H locs cells slots Q (F0 m pc ls st0) :=
  W.callV (W.runS (As := As) (rest := rest) S hM cw ⟨kPs_bl As, fun _ _ _ => rfl⟩ rfl hn hsize hst (lv_room hW) hdg hf) kk
/-- a method of an object that reads -/
theorem kc_R {r : Value} (As rest : List Value) (S : CallFix p m c cc nL s args Ts own) (hM : Met l y wd rm (kPr D cl tys ws (.ref b :: As)) (k2_QcV r) 0 0 kNo) (cw : CallW R s args own C index y bytes maxL ret wd rm 0 0 n) (hP : va_P D cl ws H) (hK : va_K D cl tys s) {ci q0 : Nat} {q : vw_C} {fs : List Value} (hc : cl[ci]? = some q) (he : ws[q0]? = some (b, .inr (ci, fs))) (hC : q.1 = C) (hn : As.length = n) (hsize : ls.size = nL) (hst : st0 = As.reverse ++ .ref b :: rest) (hW : (rest.map fun v => v.category).sum ≤ 8) (hdg : decode cc pc = .ok (.invokevirtual index, 3)) (hf : cells ≤ R.cells ∧ slots ≤ R.slots)
    (kk : W p l e R s m args below meth c H locs cells slots Q (F0 m (pc + 3) ls (r :: rest))) : W p l e R s m args below meth c H locs cells slots Q (F0 m pc ls st0) := by
  subst hC
  exact W.callV (W.runV (As := As) (rest := rest) S hM cw ⟨kPr_bl _ _ _ _ _, va_recv hK hP hc he, fun U hU hW => ⟨rfl, by rw [hU]; exact hP, va_K.moved hW.alike hK⟩⟩ rfl hn hsize hst (lv_room hW) hdg hf) kk
/-- a method of an object that writes its own cells, and makes none -/
theorem kc_W {r : Option Value} (As rest : List Value) (S : CallFix p m c cc nL s args Ts own) (hM : Met l y wd rm (kPw D cl tys ws (.ref b :: As)) (kQw D cl r ws' ad) 0 0 (fun q => q ∈ ad)) (cw : CallW R s args own C index y bytes maxL ret wd rm 0 0 n) (hP : va_P D cl ws H) (hK : va_K D cl tys s) (hD : va_D A0 ws) (hS : va_S A0 H0 H locs) (had : ws.map Prod.fst = ad) {ci q0 : Nat} {q : vw_C} {fs : List Value} (hc : cl[ci]? = some q) (he : ws[q0]? = some (b, .inr (ci, fs))) (hC : q.1 = C) (hn : As.length = n) (hsize : ls.size = nL) (hst : st0 = As.reverse ++ .ref b :: rest) (hW : (rest.map fun v => v.category).sum ≤ 8) (hdg : decode cc pc = .ok (.invokevirtual index, 3)) (hf : cells ≤ R.cells ∧ slots ≤ R.slots)
    (kk : ∀ (H1 : Heap) (locs1 : List Loc), va_P D cl ws' H1 → va_S A0 H0 H1 locs1 → (∀ q : Nat, q < H.size → q ∉ ad → H1[q]? = H[q]?) → W p l e R s m args below meth c H1 locs1 cells slots Q (F0 m (pc + 3) ls (r.toList ++ rest))) : W p l e R s m args below meth c H locs cells slots Q (F0 m pc ls st0) := by
  subst hC
  intro T hT X
  have hA : ∀ q : Nat, q ∈ ad → A0 q := by
    intro q hq
    rw [← had] at hq
    obtain ⟨x, hx, rfl⟩ := List.mem_map.mp hq
    obtain ⟨i, hi⟩ := List.getElem?_of_mem hx
    exact hD.2 i x hi
  obtain ⟨v, st₀, t, T', L, h0, X', hL, e1, ⟨hv, hp, hz, hk⟩, st⟩ := W.runV (As := As) (rest := rest) S hM cw ⟨kPw_bl _ _ _ _ _, va_recv hK hP hc he, fun U hU hW => ⟨rfl, by rw [hU]; exact hP, va_K.moved hW.alike hK, hD.weaken (fun _ _ _ _ => trivial)⟩⟩ rfl hn hsize hst (lv_room hW) hdg hf T hT X
  cases hv
  rw [h0] at hz hk
  obtain ⟨t2, a1, b1⟩ := kk T'.heap (locs ++ L) (by rw [e1]; exact hp)
    ⟨Nat.le_trans hS.1 (by rw [e1]; exact hz), fun q h1 h2 => by rw [e1, hk q (Nat.lt_of_lt_of_le h1 hS.1) (fun z => h2 (hA q z))]; exact hS.2.1 q h1 h2, fun q hq => by
      rcases List.mem_append.mp hq with h | h
      · exact hS.2.2 q h
      · exact hA _ (hL q h)⟩ (fun q h1 h2 => by rw [e1]; exact hk q h1 h2) T' rfl X'
  exact ⟨t2, st t2 a1, b1⟩
end KC
/-! what the cells of the class and of the reference hold -/
abbrev xW (h0 qa qr qt : Nat) (cI cJ : ClassId) (av : Nat → Int32) (nk : Nat) (rv : Nat → Int32) (nr : Nat) (tv : Nat → Int64) (nt : Nat) (pk : Int32) (pn : Int64) : va_W :=
  [(h0, .inr (0, [.ref qa, .int (nI nk), .ref qr, .int (nI nr), .ref qt, .int (nI nt), .int pk, .long pn])), (qa, .inl (cI, 32, .inl av)), (qr, .inl (cI, 20, .inl rv)), (qt, .inl (cJ, 300, .inr (.inl tv)))]
abbrev mW (g0 gp gr gm gl gw gn : Nat) (cI : ClassId) (pv : Nat → Int32) (nc : Nat) (tr tm tp : Nat → Int32) (mt : Nat) (wv : Nat → Int32) (nw : Nat) (re : Int32) (nm : Nat) (np : Nat → Int32) (kk : Int32) (kn : Int64) : va_W :=
  [(g0, .inr (1, [.ref gp, .int (nI nc), .ref gr, .ref gm, .ref gl, .int (nI mt), .ref gw, .int (nI nw), .int re, .int (nI nm), .ref gn, .int kk, .long kn])), (gp, .inl (cI, 12, .inl pv)), (gr, .inl (cI, 300, .inl tr)), (gm, .inl (cI, 300, .inl tm)), (gl, .inl (cI, 3000, .inl tp)), (gw, .inl (cI, 20, .inl wv)), (gn, .inl (cI, 32, .inl np))]
section KV
variable {p : Program} {l : Launch} {e : Env} {R : Room} {s : State} {m : MethodId} {args : Array Value} {below : List Frame} {meth : Method} {c : Code} {H : Heap} {locs : List Loc} {cells slots : Nat} {Q : State → Prop} {pc : Nat} {ls : Array Slot} {rest : List Value}
theorem kv_topi {x y : Int32} (h : x = y) (k : W p l e R s m args below meth c H locs cells slots Q (F0 m pc ls (.int y :: rest))) : W p l e R s m args below meth c H locs cells slots Q (F0 m pc ls (.int x :: rest)) := by
  subst h
  exact k
theorem kv_topl {x y : Int64} (h : x = y) (k : W p l e R s m args below meth c H locs cells slots Q (F0 m pc ls (.long y :: rest))) : W p l e R s m args below meth c H locs cells slots Q (F0 m pc ls (.long x :: rest)) := by
  subst h
  exact k
end KV
end
section
/-! ===== Int32 by its bits: bt x i ===== -/
def bt (x : Int32) (i : Nat) : Bool := x.toBitVec.getLsbD i
theorem b_ext {x y : Int32} (h : ∀ i, i < 32 → bt x i = bt y i) : x = y := Int32.toBitVec_inj.mp (BitVec.eq_of_getLsbD_eq (fun i hi => h i hi))
theorem b_or (x y : Int32) (i : Nat) : bt (x ||| y) i = (bt x i || bt y i) := by unfold bt; rw [Int32.toBitVec_or, BitVec.getLsbD_or]
theorem b_and (x y : Int32) (i : Nat) : bt (x &&& y) i = (bt x i && bt y i) := by unfold bt; rw [Int32.toBitVec_and, BitVec.getLsbD_and]
theorem b_xor (x y : Int32) (i : Nat) : bt (x ^^^ y) i = (bt x i ^^ bt y i) := by unfold bt; rw [Int32.toBitVec_xor, BitVec.getLsbD_xor]
theorem b_big {x : Int32} {i : Nat} (h : 32 ≤ i) : bt x i = false := BitVec.getLsbD_of_ge _ _ h
theorem b_255 (i : Nat) : bt 255 i = decide (i < 8) := by
  rcases Nat.lt_or_ge i 32 with h | h
  · exact (by decide +kernel : ∀ i, i < 32 → bt 255 i = decide (i < 8)) i h
  · rw [b_big h, decide_eq_false (by omega)]
theorem b_65535 (i : Nat) : bt 65535 i = decide (i < 16) := by
  rcases Nat.lt_or_ge i 32 with h | h
  · exact (by decide +kernel : ∀ i, i < 32 → bt 65535 i = decide (i < 16)) i h
  · rw [b_big h, decide_eq_false (by omega)]
theorem b_m1 : ∀ i, i < 32 → bt (-1) i = true := by decide +kernel
theorem b_0 (i : Nat) : bt 0 i = false := BitVec.getLsbD_zero
theorem s_l : ∀ n, n < 32 → ((nI n &&& 31).toBitVec.smod 32).toNat = n := by decide +kernel
theorem s_u : ∀ n, n < 32 → (((nI n).toUInt32 &&& Int32.toUInt32 31).toBitVec % 32).toNat = n := by decide +kernel
theorem b_shl (n : Nat) (hn : n < 32) (x : Int32) {i : Nat} (hi : i < 32) : bt (x <<< (nI n &&& 31)) i = (decide (n ≤ i) && bt x (i - n)) := by
  unfold bt
  rw [Int32.toBitVec_shiftLeft]
  show (x.toBitVec <<< ((nI n &&& 31).toBitVec.smod 32).toNat).getLsbD i = _
  rw [s_l n hn, BitVec.getLsbD_shiftLeft]
  rcases Nat.lt_or_ge i n with h | h
  · simp [h, Nat.not_le.mpr h]
  · simp [hi, h, Nat.not_lt.mpr h]
theorem b_ushr (n : Nat) (hn : n < 32) (x : Int32) (i : Nat) : bt ((x.toUInt32 >>> ((nI n).toUInt32 &&& Int32.toUInt32 31)).toInt32) i = bt x (n + i) := by
  show (x.toUInt32 >>> ((nI n).toUInt32 &&& Int32.toUInt32 31)).toBitVec.getLsbD i = x.toUInt32.toBitVec.getLsbD (n + i)
  rw [UInt32.toBitVec_shiftRight]
  show (x.toUInt32.toBitVec >>> (((nI n).toUInt32 &&& Int32.toUInt32 31).toBitVec % 32).toNat).getLsbD i = _
  rw [s_u n hn, BitVec.getLsbD_ushiftRight]
theorem b_sshr (n : Nat) (hn : n < 32) (x : Int32) {i : Nat} (hi : i < 32) : bt (x >>> (nI n &&& 31)) i = if n + i < 32 then bt x (n + i) else bt x 31 := by
  unfold bt
  rw [Int32.toBitVec_shiftRight]
  show (x.toBitVec.sshiftRight ((nI n &&& 31).toBitVec.smod 32).toNat).getLsbD i = _
  rw [s_l n hn, BitVec.getLsbD_sshiftRight, BitVec.msb_eq_getLsbD_last]
  simp [hi]
theorem b_shl8 (x : Int32) {i : Nat} (hi : i < 32) : bt (x <<< ((8 : Int32) &&& 31)) i = (decide (8 ≤ i) && bt x (i - 8)) := b_shl 8 (by omega) x hi
theorem b_shl16 (x : Int32) {i : Nat} (hi : i < 32) : bt (x <<< ((16 : Int32) &&& 31)) i = (decide (16 ≤ i) && bt x (i - 16)) := b_shl 16 (by omega) x hi
theorem b_shl24 (x : Int32) {i : Nat} (hi : i < 32) : bt (x <<< ((24 : Int32) &&& 31)) i = (decide (24 ≤ i) && bt x (i - 24)) := b_shl 24 (by omega) x hi
theorem b_sshr8 (x : Int32) {i : Nat} (hi : i < 32) : bt (x >>> ((8 : Int32) &&& 31)) i = if 8 + i < 32 then bt x (8 + i) else bt x 31 := b_sshr 8 (by omega) x hi
/-! ===== lN n to 2^64: shifts, and, or, masks, one bit ===== -/
theorem wb_tb (n : Nat) : (lN n).toBitVec = BitVec.ofNat 64 n := rfl
theorem wb_inj {a b : Int64} (h : a.toBitVec = b.toBitVec) : a = b := Int64.toBitVec_inj.mp h
theorem wb_tn {n : Nat} (h : n < 2 ^ 64) : (lN n).toBitVec.toNat = n := by rw [wb_tb, BitVec.toNat_ofNat, Nat.mod_eq_of_lt h]
theorem wb_of (x : Int64) : ∃ n, n < 2 ^ 64 ∧ x = lN n := ⟨x.toBitVec.toNat, x.toBitVec.isLt, wb_inj (by rw [wb_tb]; simp)⟩
theorem wb_of32 (x : Int32) : ∃ n, n < 2 ^ 32 ∧ x = nI n := ⟨x.toBitVec.toNat, x.toBitVec.isLt, Int32.toBitVec_inj.mp (by show _ = BitVec.ofNat 32 _; simp)⟩
theorem wb_c : ∀ k, k < 64 → ((nI k).toInt64 &&& 63) = lN k := by decide +kernel
theorem wb_cu : ∀ k, k < 64 → ((nI k).toInt64.toUInt64 &&& Int64.toUInt64 63) = UInt64.ofNat k := by decide +kernel
theorem wb_sm : ∀ k, k < 64 → (BitVec.ofNat 64 k).smod 64 = BitVec.ofNat 64 k := by decide +kernel
theorem wb_pw {a b : Nat} (h : a ≤ b) : 2 ^ b = 2 ^ a * 2 ^ (b - a) := by rw [← Nat.pow_add]; congr 1; omega
theorem wb_lt2 {a b : Nat} (h : a < b) : 2 ^ a < 2 ^ b := Nat.pow_lt_pow_right (by decide) h
theorem wb_mod (n : Nat) : lN n = lN (n % 2 ^ 64) := wb_inj (by rw [wb_tb, wb_tb]; apply BitVec.eq_of_toNat_eq; rw [BitVec.toNat_ofNat, BitVec.toNat_ofNat, Nat.mod_mod])
theorem wb_shr {n k : Nat} (hn : n < 2 ^ 64) (hk : k < 64) : ((lN n).toUInt64 >>> ((nI k).toInt64.toUInt64 &&& Int64.toUInt64 63)).toInt64 = lN (n / 2 ^ k) := by
  rw [wb_cu k hk]
  apply wb_inj
  apply BitVec.eq_of_toNat_eq
  show ((lN n).toUInt64 >>> UInt64.ofNat k).toNat = (BitVec.ofNat 64 _).toNat
  have h1 : (UInt64.ofNat k).toNat = k := by
    show (BitVec.ofNat 64 k).toNat = k
    rw [BitVec.toNat_ofNat, Nat.mod_eq_of_lt (by omega)]
  have h2 : (lN n).toUInt64.toNat = n := wb_tn hn
  rw [UInt64.toNat_shiftRight, h1, h2, Nat.mod_eq_of_lt hk, Nat.shiftRight_eq_div_pow, BitVec.toNat_ofNat, Nat.mod_eq_of_lt (Nat.lt_of_le_of_lt (Nat.div_le_self _ _) hn)]
theorem wb_shl (n : Nat) {k : Nat} (hk : k < 64) : lN n <<< ((nI k).toInt64 &&& 63) = lN (n * 2 ^ k) := by
  rw [wb_c k hk]
  apply wb_inj
  rw [Int64.toBitVec_shiftLeft, wb_tb, wb_tb, wb_tb, wb_sm k hk]
  apply BitVec.eq_of_toNat_eq
  rw [BitVec.shiftLeft_eq', BitVec.toNat_shiftLeft, BitVec.toNat_ofNat, BitVec.toNat_ofNat, BitVec.toNat_ofNat, Nat.mod_eq_of_lt (show k < 2 ^ 64 by omega), Nat.shiftLeft_eq, Nat.mul_mod, Nat.mod_mod, ← Nat.mul_mod]
theorem wb_and {a b : Nat} (ha : a < 2 ^ 64) (hb : b < 2 ^ 64) : lN a &&& lN b = lN (a &&& b) := by
  apply wb_inj
  rw [Int64.toBitVec_and, wb_tb, wb_tb, wb_tb]
  apply BitVec.eq_of_toNat_eq
  rw [BitVec.toNat_and, BitVec.toNat_ofNat, BitVec.toNat_ofNat, BitVec.toNat_ofNat, Nat.mod_eq_of_lt ha, Nat.mod_eq_of_lt hb, Nat.mod_eq_of_lt (Nat.and_lt_two_pow _ hb)]
theorem wb_or {a b : Nat} (ha : a < 2 ^ 64) (hb : b < 2 ^ 64) : lN a ||| lN b = lN (a ||| b) := by
  apply wb_inj
  rw [Int64.toBitVec_or, wb_tb, wb_tb, wb_tb]
  apply BitVec.eq_of_toNat_eq
  rw [BitVec.toNat_or, BitVec.toNat_ofNat, BitVec.toNat_ofNat, BitVec.toNat_ofNat, Nat.mod_eq_of_lt ha, Nat.mod_eq_of_lt hb, Nat.mod_eq_of_lt (Nat.or_lt_two_pow ha hb)]
theorem wb_mask {n k : Nat} (hn : n < 2 ^ 64) (hk : k < 64) : lN n &&& lN (2 ^ k - 1) = lN (n % 2 ^ k) := by
  rw [wb_and hn (by have := wb_lt2 hk; omega), Nat.and_two_pow_sub_one_eq_mod]
theorem wb_a1 {n : Nat} (hn : n < 2 ^ 64) : lN n &&& 1 = lN (n % 2) := wb_mask (k := 1) hn (by decide)
theorem wb_bit {n k : Nat} (hn : n < 2 ^ 64) (hk : k < 64) : ((lN n).toUInt64 >>> ((nI k).toInt64.toUInt64 &&& Int64.toUInt64 63)).toInt64 &&& 1 = lN (n / 2 ^ k % 2) := by
  rw [wb_shr hn hk, wb_a1 (Nat.lt_of_le_of_lt (Nat.div_le_self _ _) hn)]
theorem wb_xor {q k : Nat} (hk : k < 63) (h : 2 ^ k ≤ q) (h2 : q < 2 ^ (k + 1)) : lN q ^^^ lN (2 ^ k) = lN (q - 2 ^ k) := by
  obtain ⟨r, rfl⟩ : ∃ r, q = 2 ^ k + r := ⟨q - 2 ^ k, by omega⟩
  have hr : r < 2 ^ k := by rw [Nat.pow_succ] at h2; omega
  have hx : (2 ^ k + r) ^^^ 2 ^ k = r := by
    apply Nat.eq_of_testBit_eq
    intro i
    rw [Nat.testBit_xor, Nat.testBit_two_pow]
    rcases Nat.lt_trichotomy i k with h | h | h
    · rw [Nat.testBit_two_pow_add_gt h]
      simp [show ¬ k = i by omega]
    · subst h
      rw [Nat.testBit_two_pow_add_eq]
      simp
    · have a1 : 2 ^ (k + 1) ≤ 2 ^ i := Nat.pow_le_pow_right (by decide) h
      rw [Nat.testBit_lt_two_pow (show 2 ^ k + r < 2 ^ i by omega), Nat.testBit_lt_two_pow (show r < 2 ^ i by omega)]
      simp [show ¬ k = i by omega]
  have b1 := wb_lt2 (show k + 1 < 64 by omega)
  have b2 := wb_lt2 (show k < 64 by omega)
  apply wb_inj
  rw [Int64.toBitVec_xor, wb_tb, wb_tb, wb_tb]
  apply BitVec.eq_of_toNat_eq
  rw [BitVec.toNat_xor, BitVec.toNat_ofNat, BitVec.toNat_ofNat, BitVec.toNat_ofNat, Nat.mod_eq_of_lt (by omega : 2 ^ k + r < 2 ^ 64), Nat.mod_eq_of_lt b2, hx, Nat.add_sub_cancel_left, Nat.mod_eq_of_lt (by omega)]
/-! ===== lN: masks, 'or' of parts that don't overlap is a sum ===== -/
theorem u_tn {n : Nat} (h : n < 2 ^ 64) : (UInt64.ofNat n).toNat = n := Nat.mod_eq_of_lt h
theorem g_and {a b c : Nat} (ha : a < 2 ^ 64) (hb : b < 2 ^ 64) (hc : a &&& b = c) : lN a &&& lN b = lN c := by
  subst hc
  have h : UInt64.ofNat a &&& UInt64.ofNat b = UInt64.ofNat (a &&& b) := UInt64.toNat_inj.mp (by rw [UInt64.toNat_and, u_tn ha, u_tn hb, u_tn (Nat.and_lt_two_pow a hb)])
  have h2 := congrArg UInt64.toInt64 h
  exact h2
theorem g_and1 {a : Nat} (ha : a < 2 ^ 64) : lN a &&& 1 = lN (a % 2) := g_and (b := 1) ha (by decide) (Nat.and_two_pow_sub_one_eq_mod a 1)
theorem g_mask {a s p : Nat} (hp : 2 ^ s = p) (hs : s < 64) (ha : a < 2 ^ 64) : lN a &&& lN (p - 1) = lN (a % p) := by
  subst hp
  have := Nat.pow_lt_pow_right (show 1 < 2 by decide) hs
  exact g_and ha (by omega) (Nat.and_two_pow_sub_one_eq_mod a s)
theorem g_or {k p a b : Nat} (hp : 2 ^ k = p) (ha : a < p) (h : b * p + a < 2 ^ 64) : lN (b * p) ||| lN a = lN (b * p + a) := by
  subst hp
  have h1 : b * 2 ^ k ||| a = b * 2 ^ k + a := by rw [← Nat.shiftLeft_eq, Nat.shiftLeft_add_eq_or_of_lt ha]
  have h3 : UInt64.ofNat (b * 2 ^ k) ||| UInt64.ofNat a = UInt64.ofNat (b * 2 ^ k + a) := UInt64.toNat_inj.mp (by rw [UInt64.toNat_or, u_tn (by omega), u_tn (by omega), u_tn h, h1])
  have h2 := congrArg UInt64.toInt64 h3
  exact h2
theorem g_or' {k p a b : Nat} (hp : 2 ^ k = p) (ha : a < p) (h : a + b * p < 2 ^ 64) : lN a ||| lN (b * p) = lN (a + b * p) := by
  rw [Int64.or_comm, g_or hp ha (by omega), Nat.add_comm]
theorem g_ushr {a k p : Nat} {y : UInt64} (hy : y = UInt64.ofNat k) (hk : k < 64) (hp : 2 ^ k = p) (ha : a < 2 ^ 64) : ((lN a).toUInt64 >>> y).toInt64 = lN (a / p) := by
  subst hy hp
  have h : UInt64.ofNat a >>> UInt64.ofNat k = UInt64.ofNat (a / 2 ^ k) := UInt64.toNat_inj.mp (by rw [UInt64.toNat_shiftRight, u_tn ha, u_tn (by omega), u_tn (Nat.lt_of_le_of_lt (Nat.div_le_self _ _) ha), Nat.mod_eq_of_lt hk, Nat.shiftRight_eq_div_pow])
  have h2 := congrArg UInt64.toInt64 h
  exact h2
theorem g_shl {a k p : Nat} {y : Int64} (hy : y.toBitVec.smod 64 = BitVec.ofNat 64 k) (hk : k < 64) (hp : 2 ^ k = p) (ha : a < 2 ^ 64) : lN a <<< y = lN (a * p) := by
  subst hp
  apply Int64.toBitVec_inj.mp
  rw [Int64.toBitVec_shiftLeft, hy]
  apply BitVec.eq_of_toNat_eq
  have hb : (lN a).toBitVec.toNat = a := Nat.mod_eq_of_lt ha
  have hk' : (BitVec.ofNat 64 k).toNat = k := Nat.mod_eq_of_lt (by omega)
  have h : ((lN a).toBitVec <<< BitVec.ofNat 64 k).toNat = (a * 2 ^ k) % 2 ^ 64 := by simp only [BitVec.shiftLeft_eq', BitVec.toNat_shiftLeft, hb, hk', Nat.shiftLeft_eq]
  exact h
/-! ===== the mathematics: bits, which kind is below which ===== -/
theorem vp_in_mono {x : Int32} {a b : Nat} (h : vp_in x a) (hab : a ≤ b) : vp_in x b := fun q => h (q.imp id (fun z => Nat.le_trans hab z))
def blI (bl : Nat → Nat → Bool) (x y : Int32) : Bool := bl x.toNatClampNeg y.toNatClampNeg
theorem blI_nI (bl : Nat → Nat → Bool) {i j : Nat} (hi : i < 2 ^ 31) (hj : j < 2 ^ 31) : blI bl (nI i) (nI j) = bl i j := by
  unfold blI
  rw [nI_clamp hi, nI_clamp hj]
def kAV (bl : Nat → Nat → Bool) (av : Nat → Int32) (nk : Nat) : Prop := ∀ i, i < nk → ∀ j, j < 32 → bt (av i) j = bl i j
theorem k_and1 (y : Int32) : (y &&& 1 = 0) ↔ bt y 0 = false := by
  constructor
  · intro h
    have h1 := b_and y 1 0
    rw [h, b_0, (by decide : bt (1 : Int32) 0 = true), Bool.and_true] at h1
    exact h1.symm
  · intro h
    apply b_ext
    intro i hi
    rw [b_and, b_0]
    rcases Nat.eq_zero_or_pos i with h0 | h0
    · subst h0
      rw [h]
      rfl
    · rw [(by decide +kernel : ∀ i, i < 32 → 0 < i → bt (1 : Int32) i = false) i hi h0, Bool.and_false]
theorem kAV_bit {bl : Nat → Nat → Bool} {av : Nat → Int32} {nk : Nat} (h : kAV bl av nk) (hn : nk ≤ 32) {x y : Int32} (hx : vp_in x nk) (hy : vp_in y 32) : (((av x.toNatClampNeg).toUInt32 >>> (y.toUInt32 &&& Int32.toUInt32 31)).toInt32 &&& 1 = 0) ↔ blI bl x y = false := by
  obtain ⟨i, hi, rfl⟩ := vp_in_of hx (by omega)
  obtain ⟨j, hj, rfl⟩ := vp_in_of hy (by decide)
  rw [k_and1, b_ushr j hj, Nat.add_zero, blI_nI bl (by omega) (by omega), nI_clamp (by omega), h i hi j hj]
/-- what holds from the beginning: kind i (below 20) is below j -/
def bl0 (i j : Nat) : Bool := decide (i = j) || (decide (7 < i) && decide (j = 7)) || ((decide (i = 10) || decide (i = 11) || decide (i = 13) || decide (i = 14)) && decide (j = 8))
/-- the parents p of n classes, and what they make of 'below' -/
def kBL (bl : Nat → Nat → Bool) (pr : Nat → Nat) (n : Nat) : Prop := (∀ i, i < 20 → ∀ j, j < 32 → bl i j = bl0 i j) ∧ ∀ i, i < n → (pr i = 7 ∨ pr i = 19 ∨ (20 ≤ pr i ∧ pr i < 20 + i)) ∧ ∀ j, j < 32 → bl (20 + i) j = (decide (20 + i = j) || bl (pr i) j)
theorem kBL_refl {bl : Nat → Nat → Bool} {pr : Nat → Nat} {n : Nat} (h : kBL bl pr n) (hn : n ≤ 12) {i : Nat} (hi : i < 20 + n) : bl i i = true := by
  rcases Nat.lt_or_ge i 20 with h1 | h1
  · rw [h.1 i h1 i (by omega)]
    simp [bl0]
  · obtain ⟨k, rfl⟩ : ∃ k, i = 20 + k := ⟨i - 20, by omega⟩
    rw [(h.2 k (by omega)).2 _ (by omega)]
    simp
theorem bl0_le : ∀ i, i < 20 → ∀ j, j < 32 → bl0 i j = true → j ≤ i := by decide +kernel
theorem bl0_ch1 : ∀ i, i < 20 → ∀ j, j < 32 → ∀ k, k < 32 → (!(bl0 i j && bl0 i k && decide (j ≤ k)) || bl0 k j) = true := by decide +kernel
theorem bl0_ch (i : Nat) (hi : i < 20) (j : Nat) (hj : j < 32) (k : Nat) (hk : k < 32) (h1 : bl0 i j = true) (h2 : bl0 i k = true) (h3 : j ≤ k) : bl0 k j = true := by
  have h := bl0_ch1 i hi j hj k hk
  rw [h1, h2, decide_eq_true h3] at h
  simpa using h
theorem kBL_le {bl : Nat → Nat → Bool} {pr : Nat → Nat} {n : Nat} (h : kBL bl pr n) (hn : n ≤ 12) : ∀ (i j : Nat), i < 20 + n → j < 32 → bl i j = true → j ≤ i := by
  intro i
  induction i using Nat.strongRecOn with
  | ind i ih =>
    intro j hi hj hb
    rcases Nat.lt_or_ge i 20 with h1 | h1
    · rw [h.1 i h1 j hj] at hb
      exact bl0_le i h1 j hj hb
    · obtain ⟨k, rfl⟩ : ∃ k, i = 20 + k := ⟨i - 20, by omega⟩
      obtain ⟨h2, h3⟩ := h.2 k (by omega)
      rw [h3 j hj, Bool.or_eq_true, decide_eq_true_eq] at hb
      rcases hb with hb | hb
      · omega
      · have := ih (pr k) (by omega) j (by omega) hj hb
        omega
theorem kBL_ch {bl : Nat → Nat → Bool} {pr : Nat → Nat} {n : Nat} (h : kBL bl pr n) (hn : n ≤ 12) : ∀ (i j k : Nat), i < 20 + n → j < 32 → k < 32 → bl i j = true → bl i k = true → j ≤ k → bl k j = true := by
  intro i
  induction i using Nat.strongRecOn with
  | ind i ih =>
    intro j k hi hj hk hb hc hjk
    rcases Nat.lt_or_ge i 20 with h1 | h1
    · have hk1 := kBL_le h hn i k hi hk hc
      rw [h.1 i h1 j hj] at hb
      rw [h.1 i h1 k hk] at hc
      rw [h.1 k (by omega) j hj]
      exact bl0_ch i h1 j hj k hk hb hc hjk
    · obtain ⟨z, rfl⟩ : ∃ z, i = 20 + z := ⟨i - 20, by omega⟩
      obtain ⟨h2, h3⟩ := h.2 z (by omega)
      have hc' := hc
      rw [h3 k hk, Bool.or_eq_true, decide_eq_true_eq] at hc
      rcases hc with hc | hc
      · rw [← hc]; exact hb
      · rw [h3 j hj, Bool.or_eq_true, decide_eq_true_eq] at hb
        rcases hb with hb | hb
        · have := kBL_le h hn _ k (by omega : pr z < 20 + n) hk hc
          omega
        · exact ih (pr z) (by omega) j k (by omega) hj hk hb hc hjk
/-- the search from above, and the search from below -/
def mtop (P : Nat → Bool) : Nat → Int32
  | 0 => -1
  | k + 1 => if P k = true then nI k else mtop P k
def mup (P : Nat → Bool) : Nat → Nat → Int32
  | 0, _ => -1
  | n + 1, i => if P i = true then nI i else mup P n (i + 1)
def mall (P : Nat → Bool) : Nat → Bool
  | 0 => true
  | k + 1 => mall P k && P k
theorem mall_iff (P : Nat → Bool) (n : Nat) : mall P n = true ↔ ∀ k, k < n → P k = true := by
  induction n with
  | zero => exact ⟨fun _ k h => absurd h (Nat.not_lt_zero k), fun _ => rfl⟩
  | succ n ih =>
    unfold mall
    rw [Bool.and_eq_true, ih]
    exact ⟨fun h k hk => by
      rcases Nat.lt_or_ge k n with q | q
      · exact h.1 k q
      · rw [show k = n by omega]; exact h.2, fun h => ⟨fun k hk => h k (by omega), h n (by omega)⟩⟩
theorem mup_none {P : Nat → Bool} : ∀ (n i : Nat), (∀ k, i ≤ k → k < i + n → P k = false) → mup P n i = -1
  | 0, _, _ => rfl
  | n + 1, i, h => by
    unfold mup
    rw [h i (Nat.le_refl i) (by omega), if_neg (by decide)]
    exact mup_none n (i + 1) (fun k h1 h2 => h k (by omega) (by omega))
theorem mup_some {P : Nat → Bool} {z : Nat} (hz : P z = true) : ∀ (n i : Nat), i ≤ z → z < i + n → (∀ k, i ≤ k → k < z → P k = false) → mup P n i = nI z
  | 0, i, h1, h2, _ => by omega
  | n + 1, i, h1, h2, h => by
    unfold mup
    rcases Nat.eq_or_lt_of_le h1 with q | q
    · subst q
      rw [if_pos hz]
    · rw [h i (Nat.le_refl i) q, if_neg (by decide)]
      exact mup_some hz n (i + 1) q (by omega) (fun k h3 h4 => h k (by omega) h4)
theorem mtop_none {P : Nat → Bool} : ∀ (n : Nat), (∀ k, k < n → P k = false) → mtop P n = -1
  | 0, _ => rfl
  | n + 1, h => by
    unfold mtop
    rw [h n (by omega), if_neg (by decide)]
    exact mtop_none n (fun k hk => h k (by omega))
theorem mtop_cases (P : Nat → Bool) : ∀ (n : Nat), (∀ k, k < n → P k = false) ∨ ∃ z, z < n ∧ P z = true ∧ mtop P n = nI z ∧ ∀ k, k < n → P k = true → k ≤ z
  | 0 => Or.inl (fun k h => absurd h (Nat.not_lt_zero k))
  | n + 1 => by
    by_cases h : P n = true
    · exact Or.inr ⟨n, by omega, h, by unfold mtop; rw [if_pos h], fun k hk _ => by omega⟩
    · rcases mtop_cases P n with q | ⟨z, h1, h2, h3, h4⟩
      · refine Or.inl (fun k hk => ?_)
        rcases Nat.lt_or_ge k n with q1 | q1
        · exact q k q1
        · rw [show k = n by omega]; exact Bool.eq_false_iff.mpr h
      · refine Or.inr ⟨z, by omega, h2, by unfold mtop; rw [if_neg h]; exact h3, fun k hk hp => ?_⟩
        rcases Nat.lt_or_ge k n with q1 | q1
        · exact h4 k q1 hp
        · rw [show k = n by omega] at hp; exact absurd hp h
/-- the least common kind, both ways -/
theorem meet_same {bl : Nat → Nat → Bool} {pr : Nat → Nat} {n : Nat} (h : kBL bl pr n) (hn : n ≤ 12) {a b : Nat} (ha : a < 20 + n) (hb : b < 20 + n) :
    mtop (fun k => bl a k && bl b k) (20 + n) = mup (fun c => (bl a c && bl b c) && mall (fun d => !(bl a d && bl b d) || bl c d) (20 + n)) (20 + n) 0 := by
  rcases mtop_cases (fun k => bl a k && bl b k) (20 + n) with q | ⟨z, h1, h2, h3, h4⟩
  · rw [mtop_none _ q, mup_none]
    intro k _ hk
    have := q k (by omega)
    try dsimp only at this ⊢
    rw [this, Bool.false_and]
  · rw [h3]
    symm
    try dsimp only at h2
    obtain ⟨g1, g2⟩ := (Bool.and_eq_true _ _).mp h2
    refine mup_some ?_ _ 0 (Nat.zero_le _) (by omega) ?_
    · try dsimp only
      rw [h2, Bool.true_and, mall_iff]
      intro d hd
      cases hx : (bl a d && bl b d)
      · rfl
      · have := h4 d hd hx
        rw [Bool.and_eq_true] at hx
        rw [kBL_ch h hn a d z ha (by omega) (by omega) hx.1 g1 this]
        rfl
    · intro k _ hk
      try dsimp only
      cases hx : (bl a k && bl b k)
      · rfl
      · rw [Bool.true_and]
        apply Bool.eq_false_iff.mpr
        intro hm
        have := (mall_iff _ _).mp hm z h1
        try dsimp only at this
        rw [h2, Bool.not_true, Bool.false_or] at this
        have := kBL_le h hn k z (by omega) (by omega) this
        omega
/-! ===== a TYPE as one number: its result, how many places, the places ===== -/
def hiP (p : Nat → Nat) : Nat → Nat
  | 0 => 0
  | k + 1 => hiP p k + p k * 2 ^ (9 + 5 * k)
def enc (r : Nat) (p : Nat → Nat) (m : Nat) : Nat := r + 32 * m + hiP p m
theorem pw5 (k : Nat) : 2 ^ (9 + 5 * (k + 1)) = 32 * 2 ^ (9 + 5 * k) := by
  rw [show 9 + 5 * (k + 1) = 5 + (9 + 5 * k) by omega, Nat.pow_add]
theorem hiP_lt {p : Nat → Nat} : ∀ (m : Nat), (∀ k, k < m → p k < 32) → hiP p m + 512 ≤ 2 ^ (9 + 5 * m)
  | 0, _ => by
    show 0 + 512 ≤ 2 ^ 9
    decide
  | m + 1, h => by
    have ih := hiP_lt m (fun k hk => h k (by omega))
    have h1 : p m * 2 ^ (9 + 5 * m) ≤ 31 * 2 ^ (9 + 5 * m) := Nat.mul_le_mul_right _ (by have := h m (by omega); omega)
    unfold hiP
    rw [pw5]
    omega
theorem hiP_dvd (p : Nat → Nat) : ∀ (m : Nat), ∃ t, hiP p m = 512 * t
  | 0 => ⟨0, rfl⟩
  | m + 1 => by
    obtain ⟨t, ht⟩ := hiP_dvd p m
    refine ⟨t + p m * 2 ^ (5 * m), ?_⟩
    unfold hiP
    rw [ht, Nat.pow_add, Nat.mul_add, Nat.mul_left_comm]
theorem hiP_congr {p q : Nat → Nat} : ∀ (m : Nat), (∀ k, k < m → p k = q k) → hiP p m = hiP q m
  | 0, _ => rfl
  | m + 1, h => by
    unfold hiP
    rw [hiP_congr m (fun k hk => h k (by omega)), h m (by omega)]
theorem enc_congr {p q : Nat → Nat} {r m : Nat} (h : ∀ k, k < m → p k = q k) : enc r p m = enc r q m := by
  unfold enc
  rw [hiP_congr m h]
theorem enc_r {r m : Nat} {p : Nat → Nat} (hr : r < 32) : enc r p m % 32 = r := by
  obtain ⟨t, ht⟩ := hiP_dvd p m
  unfold enc
  omega
theorem enc_m {r m : Nat} {p : Nat → Nat} (hr : r < 32) (hm : m ≤ 10) : enc r p m / 32 % 16 = m := by
  obtain ⟨t, ht⟩ := hiP_dvd p m
  unfold enc
  omega
theorem enc_lt {r m : Nat} {p : Nat → Nat} (hr : r < 32) (hm : m ≤ 10) (hp : ∀ k, k < m → p k < 32) : enc r p m + 32 < 2 ^ (9 + 5 * m) := by
  have := hiP_lt m hp
  unfold enc
  omega
theorem pw59 {m : Nat} (hm : m ≤ 10) : 2 ^ (9 + 5 * m) ≤ 2 ^ 59 := Nat.pow_le_pow_right (by decide) (by omega)
theorem enc_lt59 {r m : Nat} {p : Nat → Nat} (hr : r < 32) (hm : m ≤ 10) (hp : ∀ k, k < m → p k < 32) : enc r p m < 2 ^ 59 := by
  have h1 := enc_lt hr hm hp
  have h2 := pw59 hm
  omega
theorem hiP_split {p : Nat → Nat} {k : Nat} : ∀ (m : Nat), k < m → ∃ t, hiP p m = hiP p k + p k * 2 ^ (9 + 5 * k) + 2 ^ (9 + 5 * (k + 1)) * t
  | 0, h => absurd h (Nat.not_lt_zero k)
  | m + 1, h => by
    rcases Nat.lt_or_ge k m with q | q
    · obtain ⟨t, ht⟩ := hiP_split m q
      refine ⟨t + p m * 2 ^ (5 * (m - (k + 1))), ?_⟩
      have e : 2 ^ (9 + 5 * m) = 2 ^ (9 + 5 * (k + 1)) * 2 ^ (5 * (m - (k + 1))) := by
        rw [← Nat.pow_add]
        congr 1
        omega
      rw [show hiP p (m + 1) = hiP p m + p m * 2 ^ (9 + 5 * m) from rfl, ht, e]
      generalize 2 ^ (9 + 5 * (k + 1)) = Y
      generalize 2 ^ (5 * (m - (k + 1))) = Z
      rw [Nat.mul_add, Nat.mul_left_comm (p m), Nat.add_assoc]
    · refine ⟨0, ?_⟩
      rw [show k = m by omega]
      rfl
theorem enc_p {r m k : Nat} {p : Nat → Nat} (hr : r < 32) (hm : m ≤ 10) (hp : ∀ k, k < m → p k < 32) (hk : k < m) : enc r p m / 2 ^ (9 + 5 * k) % 32 = p k := by
  obtain ⟨t, ht⟩ := hiP_split (p := p) m hk
  have h1 := hiP_lt k (fun j hj => hp j (by omega))
  have e : enc r p m = (r + 32 * m + hiP p k) + 2 ^ (9 + 5 * k) * (p k + 32 * t) := by
    unfold enc
    rw [ht, pw5, Nat.mul_add, Nat.mul_comm (p k), Nat.mul_assoc 32, Nat.mul_left_comm 32]
    omega
  have h2 : r + 32 * m + hiP p k < 2 ^ (9 + 5 * k) := by omega
  rw [e, Nat.add_mul_div_left _ _ (Nat.two_pow_pos _), Nat.div_eq_of_lt h2]
  have := hp k hk
  omega
theorem enc_inj {r m r' m' : Nat} {p p' : Nat → Nat} (hr : r < 32) (hm : m ≤ 10) (hp : ∀ k, k < m → p k < 32) (hr' : r' < 32) (hm' : m' ≤ 10) (hp' : ∀ k, k < m' → p' k < 32) : enc r p m = enc r' p' m' ↔ r = r' ∧ m = m' ∧ ∀ k, k < m → p k = p' k := by
  constructor
  · intro h
    have h1 : r = r' := by rw [← enc_r (p := p) (m := m) hr, h, enc_r hr']
    have h2 : m = m' := by rw [← enc_m (p := p) hr hm, h, enc_m hr' hm']
    subst h2
    exact ⟨h1, rfl, fun k hk => by rw [← enc_p hr hm hp hk, h, enc_p hr' hm hp' hk]⟩
  · rintro ⟨rfl, rfl, h⟩
    exact enc_congr h
/-- the first number in a row of n from i on -/
def fnd (P : Nat → Bool) : Nat → Nat → Option Nat
  | 0, _ => none
  | n + 1, i => if P i = true then some i else fnd P n (i + 1)
theorem fnd_congr {P Q : Nat → Bool} : ∀ (n i : Nat), (∀ k, i ≤ k → k < i + n → P k = Q k) → fnd P n i = fnd Q n i
  | 0, _, _ => rfl
  | n + 1, i, h => by
    unfold fnd
    rw [h i (Nat.le_refl i) (by omega), fnd_congr n (i + 1) (fun k h1 h2 => h k (by omega) (by omega))]
theorem fnd_lt {P : Nat → Bool} : ∀ (n i z : Nat), fnd P n i = some z → z < i + n
  | 0, _, _, h => by cases h
  | n + 1, i, z, h => by
    unfold fnd at h
    by_cases c : P i = true
    · rw [if_pos c] at h
      cases h
      omega
    · rw [if_neg c] at h
      have := fnd_lt n (i + 1) z h
      omega
def nbR (o : Option Nat) (nt : Nat) : Int32 := match o with
  | some i => nI i
  | none => if nt = 300 then -1 else nI nt
def nbN (o : Option Nat) (nt : Nat) : Nat := match o with
  | some _ => nt
  | none => if nt = 300 then nt else nt + 1
def nbV {α : Type} (o : Option Nat) (nt : Nat) (old new : α) : α := match o with
  | some _ => old
  | none => if nt = 300 then old else new
end
section
-- ===== PART A: goes FIRST, ahead of the names: the tables' words, and 'selects' of the private methods out of them =====
/-- a private method of a class that the tables say can be made, by its rows of tables_1 -/
def lw_okq (q : MethodName × Nat) : Prop := (q.1.cls ≠ "java/lang/invoke/MethodHandle" ∧ q.1.cls ≠ "java/lang/invoke/VarHandle") ∧ Cond.instantiable q.1.cls q.2 ∈ tables_1 ∧ Cond.privateMethod q.1 ∈ tables_1 ∧ Cond.instanceMethod q.1 ∈ tables_1
theorem lw_p0 : lw_okq (⟨"KindTable", "mayBeParent", "(I)Z"⟩, 8) := ⟨⟨by decide +kernel, by decide +kernel⟩, List.mem_of_getElem? (i := 4) (by decide +kernel), List.mem_of_getElem? (i := 52) (by decide +kernel), List.mem_of_getElem? (i := 53) (by decide +kernel)⟩
theorem lw_p1 : lw_okq (⟨"KindTable", "isKind", "(I)Z"⟩, 8) := ⟨⟨by decide +kernel, by decide +kernel⟩, List.mem_of_getElem? (i := 4) (by decide +kernel), List.mem_of_getElem? (i := 56) (by decide +kernel), List.mem_of_getElem? (i := 57) (by decide +kernel)⟩
theorem lw_p2 : lw_okq (⟨"KindTable", "isBelow", "(II)Z"⟩, 8) := ⟨⟨by decide +kernel, by decide +kernel⟩, List.mem_of_getElem? (i := 4) (by decide +kernel), List.mem_of_getElem? (i := 64) (by decide +kernel), List.mem_of_getElem? (i := 65) (by decide +kernel)⟩
theorem lw_p3 : lw_okq (⟨"KindTable", "mayPass", "(IIZ)Z"⟩, 8) := ⟨⟨by decide +kernel, by decide +kernel⟩, List.mem_of_getElem? (i := 4) (by decide +kernel), List.mem_of_getElem? (i := 76) (by decide +kernel), List.mem_of_getElem? (i := 77) (by decide +kernel)⟩
theorem lw_p4 : lw_okq (⟨"KindTable", "passPlain", "(IIJ)I"⟩, 8) := ⟨⟨by decide +kernel, by decide +kernel⟩, List.mem_of_getElem? (i := 4) (by decide +kernel), List.mem_of_getElem? (i := 100) (by decide +kernel), List.mem_of_getElem? (i := 101) (by decide +kernel)⟩
theorem lw_p5 : lw_okq (⟨"KindTable", "keep", "(IJ)I"⟩, 8) := ⟨⟨by decide +kernel, by decide +kernel⟩, List.mem_of_getElem? (i := 4) (by decide +kernel), List.mem_of_getElem? (i := 104) (by decide +kernel), List.mem_of_getElem? (i := 105) (by decide +kernel)⟩
theorem lw_p6 : lw_okq (⟨"KindTable", "passNull", "(IZ)I"⟩, 8) := ⟨⟨by decide +kernel, by decide +kernel⟩, List.mem_of_getElem? (i := 4) (by decide +kernel), List.mem_of_getElem? (i := 108) (by decide +kernel), List.mem_of_getElem? (i := 109) (by decide +kernel)⟩
theorem lw_p7 : lw_okq (⟨"KindTable", "isObject", "(IJ)Z"⟩, 8) := ⟨⟨by decide +kernel, by decide +kernel⟩, List.mem_of_getElem? (i := 4) (by decide +kernel), List.mem_of_getElem? (i := 112) (by decide +kernel), List.mem_of_getElem? (i := 113) (by decide +kernel)⟩
theorem lw_p8 : lw_okq (⟨"KindTable", "passAsPlain", "(IZIJ)I"⟩, 8) := ⟨⟨by decide +kernel, by decide +kernel⟩, List.mem_of_getElem? (i := 4) (by decide +kernel), List.mem_of_getElem? (i := 116) (by decide +kernel), List.mem_of_getElem? (i := 117) (by decide +kernel)⟩
theorem lw_p9 : lw_okq (⟨"KindTable", "passAsReference", "(IIJ)I"⟩, 8) := ⟨⟨by decide +kernel, by decide +kernel⟩, List.mem_of_getElem? (i := 4) (by decide +kernel), List.mem_of_getElem? (i := 120) (by decide +kernel), List.mem_of_getElem? (i := 121) (by decide +kernel)⟩
theorem lw_p10 : lw_okq (⟨"KindTable", "numberOf", "(J)I"⟩, 8) := ⟨⟨by decide +kernel, by decide +kernel⟩, List.mem_of_getElem? (i := 4) (by decide +kernel), List.mem_of_getElem? (i := 151) (by decide +kernel), List.mem_of_getElem? (i := 152) (by decide +kernel)⟩
theorem lw_p11 : lw_okq (⟨"KindTable", "isType", "(I)Z"⟩, 8) := ⟨⟨by decide +kernel, by decide +kernel⟩, List.mem_of_getElem? (i := 4) (by decide +kernel), List.mem_of_getElem? (i := 159) (by decide +kernel), List.mem_of_getElem? (i := 160) (by decide +kernel)⟩
theorem lw_p12 : lw_okq (⟨"KindTableModel", "isKind", "(I)Z"⟩, 13) := ⟨⟨by decide +kernel, by decide +kernel⟩, List.mem_of_getElem? (i := 181) (by decide +kernel), List.mem_of_getElem? (i := 231) (by decide +kernel), List.mem_of_getElem? (i := 232) (by decide +kernel)⟩
theorem lw_p13 : lw_okq (⟨"KindTableModel", "isBelow", "(II)Z"⟩, 13) := ⟨⟨by decide +kernel, by decide +kernel⟩, List.mem_of_getElem? (i := 181) (by decide +kernel), List.mem_of_getElem? (i := 239) (by decide +kernel), List.mem_of_getElem? (i := 240) (by decide +kernel)⟩
theorem lw_p14 : lw_okq (⟨"KindTableModel", "mayPass", "(IIZZ)Z"⟩, 13) := ⟨⟨by decide +kernel, by decide +kernel⟩, List.mem_of_getElem? (i := 181) (by decide +kernel), List.mem_of_getElem? (i := 254) (by decide +kernel), List.mem_of_getElem? (i := 255) (by decide +kernel)⟩
theorem lw_p15 : lw_okq (⟨"KindTableModel", "kept", "(IJ)I"⟩, 13) := ⟨⟨by decide +kernel, by decide +kernel⟩, List.mem_of_getElem? (i := 181) (by decide +kernel), List.mem_of_getElem? (i := 279) (by decide +kernel), List.mem_of_getElem? (i := 280) (by decide +kernel)⟩
def lw_privs_1 : List (MethodName × Nat) := [(⟨"KindTable", "mayBeParent", "(I)Z"⟩, 8), (⟨"KindTable", "isKind", "(I)Z"⟩, 8), (⟨"KindTable", "isBelow", "(II)Z"⟩, 8), (⟨"KindTable", "mayPass", "(IIZ)Z"⟩, 8), (⟨"KindTable", "passPlain", "(IIJ)I"⟩, 8), (⟨"KindTable", "keep", "(IJ)I"⟩, 8), (⟨"KindTable", "passNull", "(IZ)I"⟩, 8), (⟨"KindTable", "isObject", "(IJ)Z"⟩, 8), (⟨"KindTable", "passAsPlain", "(IZIJ)I"⟩, 8), (⟨"KindTable", "passAsReference", "(IIJ)I"⟩, 8), (⟨"KindTable", "numberOf", "(J)I"⟩, 8), (⟨"KindTable", "isType", "(I)Z"⟩, 8), (⟨"KindTableModel", "isKind", "(I)Z"⟩, 13), (⟨"KindTableModel", "isBelow", "(II)Z"⟩, 13), (⟨"KindTableModel", "mayPass", "(IIZZ)Z"⟩, 13), (⟨"KindTableModel", "kept", "(IJ)I"⟩, 13)]
theorem lw_r1 : ∀ q ∈ lw_privs_1, lw_okq q := List.forall_mem_cons.mpr ⟨lw_p0, List.forall_mem_cons.mpr ⟨lw_p1, List.forall_mem_cons.mpr ⟨lw_p2, List.forall_mem_cons.mpr ⟨lw_p3, List.forall_mem_cons.mpr ⟨lw_p4, List.forall_mem_cons.mpr ⟨lw_p5, List.forall_mem_cons.mpr ⟨lw_p6, List.forall_mem_cons.mpr ⟨lw_p7, List.forall_mem_cons.mpr ⟨lw_p8, List.forall_mem_cons.mpr ⟨lw_p9, List.forall_mem_cons.mpr ⟨lw_p10, List.forall_mem_cons.mpr ⟨lw_p11, List.forall_mem_cons.mpr ⟨lw_p12, List.forall_mem_cons.mpr ⟨lw_p13, List.forall_mem_cons.mpr ⟨lw_p14, List.forall_mem_cons.mpr ⟨lw_p15, fun _ h => absurd h List.not_mem_nil⟩⟩⟩⟩⟩⟩⟩⟩⟩⟩⟩⟩⟩⟩⟩⟩
theorem lw_p16 : lw_okq (⟨"KindTableModel", "isObject", "(I)Z"⟩, 13) := ⟨⟨by decide +kernel, by decide +kernel⟩, List.mem_of_getElem? (i := 181) (by decide +kernel), List.mem_of_getElem? (i := 283) (by decide +kernel), List.mem_of_getElem? (i := 284) (by decide +kernel)⟩
theorem lw_p17 : lw_okq (⟨"KindTableModel", "madeType", "()I"⟩, 13) := ⟨⟨by decide +kernel, by decide +kernel⟩, List.mem_of_getElem? (i := 181) (by decide +kernel), List.mem_of_getElem? (i := 303) (by decide +kernel), List.mem_of_getElem? (i := 304) (by decide +kernel)⟩
theorem lw_p18 : lw_okq (⟨"KindTableModel", "findType", "(II)I"⟩, 13) := ⟨⟨by decide +kernel, by decide +kernel⟩, List.mem_of_getElem? (i := 181) (by decide +kernel), List.mem_of_getElem? (i := 307) (by decide +kernel), List.mem_of_getElem? (i := 308) (by decide +kernel)⟩
theorem lw_p19 : lw_okq (⟨"KindTableModel", "isType", "(I)Z"⟩, 13) := ⟨⟨by decide +kernel, by decide +kernel⟩, List.mem_of_getElem? (i := 181) (by decide +kernel), List.mem_of_getElem? (i := 315) (by decide +kernel), List.mem_of_getElem? (i := 316) (by decide +kernel)⟩
theorem lw_p20 : lw_okq (⟨"KindTableModel", "add", "(I)V"⟩, 13) := ⟨⟨by decide +kernel, by decide +kernel⟩, List.mem_of_getElem? (i := 181) (by decide +kernel), List.mem_of_getElem? (i := 327) (by decide +kernel), List.mem_of_getElem? (i := 328) (by decide +kernel)⟩
def lw_privs_2 : List (MethodName × Nat) := [(⟨"KindTableModel", "isObject", "(I)Z"⟩, 13), (⟨"KindTableModel", "madeType", "()I"⟩, 13), (⟨"KindTableModel", "findType", "(II)I"⟩, 13), (⟨"KindTableModel", "isType", "(I)Z"⟩, 13), (⟨"KindTableModel", "add", "(I)V"⟩, 13)]
theorem lw_r2 : ∀ q ∈ lw_privs_2, lw_okq q := List.forall_mem_cons.mpr ⟨lw_p16, List.forall_mem_cons.mpr ⟨lw_p17, List.forall_mem_cons.mpr ⟨lw_p18, List.forall_mem_cons.mpr ⟨lw_p19, List.forall_mem_cons.mpr ⟨lw_p20, fun _ h => absurd h List.not_mem_nil⟩⟩⟩⟩⟩
def lw_privs : List (MethodName × Nat) := lw_privs_1 ++ (lw_privs_2)
def lw_tbl : List Cond := k2_sels lw_privs ++ tables_1
theorem lw_privs_ok : ∀ q ∈ lw_privs, lw_okq q := by
  show ∀ q ∈ lw_privs_1 ++ (lw_privs_2), lw_okq q
  exact List.forall_mem_append.mpr ⟨lw_r1, lw_r2⟩
/-! ===== BEGIN words of one list among another's, by their places ===== -/
theorem goodIn_r {big : List Cond} (ws : List Cond) (ps : List Nat) (hp : ws = ps.filterMap (fun i => big[i]?)) (h : ws.all goodWord = true) : GoodIn big ws := by
  intro w hw
  have h1 := List.all_eq_true.mp h w hw
  rw [hp] at hw
  obtain ⟨i, -, hi⟩ := List.mem_filterMap.mp hw
  have hm : w ∈ big := by first | exact List.mem_of_getElem? hi | exact List.getElem?_mem hi
  exact ⟨hm, good_of_word h1⟩
theorem goodIn_app {big a b : List Cond} (ha : GoodIn big a) (hb : GoodIn big b) : GoodIn big (a ++ b) := fun w h => (List.mem_append.mp h).elim (ha w) (hb w)
theorem goodIn_ca {big a b : List Cond} {c : Cond} (ha : GoodIn big (c :: a)) (hb : GoodIn big b) : GoodIn big (c :: (a ++ b)) := fun w h => (List.mem_cons.mp h).elim (fun e => ha w (List.mem_cons.mpr (Or.inl e))) (fun h => (List.mem_append.mp h).elim (fun h => ha w (List.mem_cons.mpr (Or.inr h))) (hb w))
theorem goodIn_sub {big ws : List Cond} (hm : ∀ w ∈ ws, w ∈ big) (h : ws.all goodWord = true) : GoodIn big ws := fun w hw => ⟨hm w hw, good_of_word (List.all_eq_true.mp h w hw)⟩
/-! ===== END ===== -/

/-! ===== BEGIN printed: names, fields, word lists, decode rows ===== -/
def RX0 : String := "KindTable"
def TX0 : u_T := fun k => match k with
  | 0 => ("KindTable", "above", "[I", true)
  | 1 => ("KindTable", "kindCount", "I", false)
  | 2 => ("KindTable", "row", "[I", true)
  | 3 => ("KindTable", "rowLength", "I", false)
  | 4 => ("KindTable", "types", "[J", true)
  | 5 => ("KindTable", "typeCount", "I", false)
  | 6 => ("KindTable", "passedKind", "I", false)
  | _ => ("KindTable", "passedNumber", "J", false)
def tyX0 : Nat → FieldType := fun k => match k with
  | 0 => .array .int
  | 1 => .int
  | 2 => .array .int
  | 3 => .int
  | 4 => .array .long
  | 5 => .int
  | 6 => .int
  | _ => .long
abbrev wsX00 : List Cond := u_ws RX0 TX0 8
theorem nmX0 : ∀ a, a < 8 → ∀ b, b < 8 → a ≠ b → (TX0 a).2.1 ≠ (TX0 b).2.1 := by decide +kernel
theorem tyX0_ok : ∀ k, k < 8 → parseFieldDescriptor (TX0 k).2.2.1 = some (tyX0 k) := by decide +kernel
abbrev cX0_init : ByteArray := prog_1_method_1_code
def yX0_init : MethodName := ⟨RX0, "<init>", "()V"⟩
abbrev cX0_newClass : ByteArray := prog_1_method_2_code
def yX0_newClass : MethodName := ⟨RX0, "newClass", "(I)I"⟩
abbrev cX0_below : ByteArray := prog_1_method_3_code
def yX0_below : MethodName := ⟨RX0, "below", "(II)Z"⟩
abbrev cX0_meet : ByteArray := prog_1_method_4_code
def yX0_meet : MethodName := ⟨RX0, "meet", "(II)I"⟩
abbrev cX0_may : ByteArray := prog_1_method_5_code
def yX0_may : MethodName := ⟨RX0, "may", "(IIZZ)Z"⟩
abbrev cX0_pass : ByteArray := prog_1_method_6_code
def yX0_pass : MethodName := ⟨RX0, "pass", "(IIZIJ)I"⟩
abbrev cX0_kind : ByteArray := prog_1_method_7_code
def yX0_kind : MethodName := ⟨RX0, "kind", "()I"⟩
abbrev cX0_number : ByteArray := prog_1_method_8_code
def yX0_number : MethodName := ⟨RX0, "number", "()J"⟩
abbrev cX0_put : ByteArray := prog_1_method_9_code
def yX0_put : MethodName := ⟨RX0, "put", "(I)Z"⟩
abbrev cX0_type : ByteArray := prog_1_method_10_code
def yX0_type : MethodName := ⟨RX0, "type", "(I)I"⟩
abbrev cX0_typeAbout : ByteArray := prog_1_method_11_code
def yX0_typeAbout : MethodName := ⟨RX0, "typeAbout", "(II)I"⟩
abbrev cX0_mayBe : ByteArray := prog_1_method_12_code
def yX0_mayBe : MethodName := ⟨RX0, "mayBe", "(IIZ)Z"⟩
abbrev cX0_changed : ByteArray := prog_1_method_13_code
def yX0_changed : MethodName := ⟨RX0, "changed", "(IIII)I"⟩
abbrev cX0_firstAbove : ByteArray := prog_1_method_14_code
def yX0_firstAbove : MethodName := ⟨RX0, "firstAbove", "(I)I"⟩
abbrev cX0_isPlain : ByteArray := prog_1_method_15_code
def yX0_isPlain : MethodName := ⟨RX0, "isPlain", "(I)Z"⟩
abbrev cX0_isBox : ByteArray := prog_1_method_16_code
def yX0_isBox : MethodName := ⟨RX0, "isBox", "(I)Z"⟩
abbrev cX0_isOfNumbers : ByteArray := prog_1_method_17_code
def yX0_isOfNumbers : MethodName := ⟨RX0, "isOfNumbers", "(I)Z"⟩
abbrev cX0_isKind : ByteArray := prog_1_method_18_code
def yX0_isKind : MethodName := ⟨RX0, "isKind", "(I)Z"⟩
abbrev cX0_mayBeParent : ByteArray := prog_1_method_19_code
def yX0_mayBeParent : MethodName := ⟨RX0, "mayBeParent", "(I)Z"⟩
abbrev cX0_isBelow : ByteArray := prog_1_method_20_code
def yX0_isBelow : MethodName := ⟨RX0, "isBelow", "(II)Z"⟩
abbrev cX0_isObject : ByteArray := prog_1_method_21_code
def yX0_isObject : MethodName := ⟨RX0, "isObject", "(IJ)Z"⟩
abbrev cX0_mayPass : ByteArray := prog_1_method_22_code
def yX0_mayPass : MethodName := ⟨RX0, "mayPass", "(IIZ)Z"⟩
abbrev cX0_mayWiden : ByteArray := prog_1_method_23_code
def yX0_mayWiden : MethodName := ⟨RX0, "mayWiden", "(II)Z"⟩
abbrev cX0_mayUnbox : ByteArray := prog_1_method_24_code
def yX0_mayUnbox : MethodName := ⟨RX0, "mayUnbox", "(II)Z"⟩
abbrev cX0_lowest : ByteArray := prog_1_method_25_code
def yX0_lowest : MethodName := ⟨RX0, "lowest", "(IJ)J"⟩
abbrev cX0_fits : ByteArray := prog_1_method_26_code
def yX0_fits : MethodName := ⟨RX0, "fits", "(IJ)Z"⟩
abbrev cX0_passPlain : ByteArray := prog_1_method_27_code
def yX0_passPlain : MethodName := ⟨RX0, "passPlain", "(IIJ)I"⟩
abbrev cX0_passNull : ByteArray := prog_1_method_28_code
def yX0_passNull : MethodName := ⟨RX0, "passNull", "(IZ)I"⟩
abbrev cX0_passAsPlain : ByteArray := prog_1_method_29_code
def yX0_passAsPlain : MethodName := ⟨RX0, "passAsPlain", "(IZIJ)I"⟩
abbrev cX0_passAsReference : ByteArray := prog_1_method_30_code
def yX0_passAsReference : MethodName := ⟨RX0, "passAsReference", "(IIJ)I"⟩
abbrev cX0_keep : ByteArray := prog_1_method_31_code
def yX0_keep : MethodName := ⟨RX0, "keep", "(IJ)I"⟩
abbrev cX0_isType : ByteArray := prog_1_method_32_code
def yX0_isType : MethodName := ⟨RX0, "isType", "(I)Z"⟩
abbrev cX0_resultOf : ByteArray := prog_1_method_33_code
def yX0_resultOf : MethodName := ⟨RX0, "resultOf", "(J)I"⟩
abbrev cX0_placesOf : ByteArray := prog_1_method_34_code
def yX0_placesOf : MethodName := ⟨RX0, "placesOf", "(J)I"⟩
abbrev cX0_placeOf : ByteArray := prog_1_method_35_code
def yX0_placeOf : MethodName := ⟨RX0, "placeOf", "(JI)I"⟩
abbrev cX0_placeBit : ByteArray := prog_1_method_36_code
def yX0_placeBit : MethodName := ⟨RX0, "placeBit", "(I)I"⟩
abbrev cX0_withPlace : ByteArray := prog_1_method_37_code
def yX0_withPlace : MethodName := ⟨RX0, "withPlace", "(JI)J"⟩
abbrev cX0_withPlacesOf : ByteArray := prog_1_method_38_code
def yX0_withPlacesOf : MethodName := ⟨RX0, "withPlacesOf", "(JJII)J"⟩
abbrev cX0_numberOf : ByteArray := prog_1_method_39_code
def yX0_numberOf : MethodName := ⟨RX0, "numberOf", "(J)I"⟩
def RX1 : String := "KindTableModel"
def TX1 : u_T := fun k => match k with
  | 0 => ("KindTableModel", "parent", "[I", true)
  | 1 => ("KindTableModel", "classes", "I", false)
  | 2 => ("KindTableModel", "typeResult", "[I", true)
  | 3 => ("KindTableModel", "typeMany", "[I", true)
  | 4 => ("KindTableModel", "typePlace", "[I", true)
  | 5 => ("KindTableModel", "types", "I", false)
  | 6 => ("KindTableModel", "row", "[I", true)
  | 7 => ("KindTableModel", "rowSize", "I", false)
  | 8 => ("KindTableModel", "newResult", "I", false)
  | 9 => ("KindTableModel", "newMany", "I", false)
  | 10 => ("KindTableModel", "newPlace", "[I", true)
  | 11 => ("KindTableModel", "keptKind", "I", false)
  | _ => ("KindTableModel", "keptNumber", "J", false)
def tyX1 : Nat → FieldType := fun k => match k with
  | 0 => .array .int
  | 1 => .int
  | 2 => .array .int
  | 3 => .array .int
  | 4 => .array .int
  | 5 => .int
  | 6 => .array .int
  | 7 => .int
  | 8 => .int
  | 9 => .int
  | 10 => .array .int
  | 11 => .int
  | _ => .long
abbrev wsX10 : List Cond := u_ws RX1 TX1 13
theorem nmX1 : ∀ a, a < 13 → ∀ b, b < 13 → a ≠ b → (TX1 a).2.1 ≠ (TX1 b).2.1 := by decide +kernel
theorem tyX1_ok : ∀ k, k < 13 → parseFieldDescriptor (TX1 k).2.2.1 = some (tyX1 k) := by decide +kernel
abbrev cX1_init : ByteArray := prog_3_method_1_code
def yX1_init : MethodName := ⟨RX1, "<init>", "()V"⟩
abbrev cX1_isKind : ByteArray := prog_3_method_3_code
def yX1_isKind : MethodName := ⟨RX1, "isKind", "(I)Z"⟩
abbrev cX1_newClass : ByteArray := prog_3_method_16_code
def yX1_newClass : MethodName := ⟨RX1, "newClass", "(I)I"⟩
abbrev cX1_below : ByteArray := prog_3_method_17_code
def yX1_below : MethodName := ⟨RX1, "below", "(II)Z"⟩
def RL : String := "KindTableLaw"
abbrev cL_law : ByteArray := code
def yL_law : MethodName := ⟨RL, "law", "([I)Z"⟩
def wsX0_isBox : List Cond := .code yX0_isBox cX0_isBox 1 (some .boolean) :: ([])
def wsX0_isOfNumbers : List Cond := .code yX0_isOfNumbers cX0_isOfNumbers 1 (some .boolean) :: ([])
def wsX0_firstAbove : List Cond := .code yX0_firstAbove cX0_firstAbove 2 (some .int) :: ([.methodLink RX0 110 yX0_isBox, .static yX0_isBox, .initialized RX0, .code yX0_isBox cX0_isBox 1 (some .boolean), .methodLink RX0 113 yX0_isOfNumbers, .static yX0_isOfNumbers, .code yX0_isOfNumbers cX0_isOfNumbers 1 (some .boolean)])
def wsX0_init : List Cond := .code yX0_init cX0_init 2 none :: ([.methodLink RX0 3 objectInit, .instanceMethod objectInit, .code objectInit ⟨#[0xb1]⟩ 1 none, .arrayClass .int, .fieldLink RX0 9 "KindTable" "above" "[I", .fieldLink RX0 17 "KindTable" "kindCount" "I", .fieldLink RX0 21 "KindTable" "row" "[I", .fieldLink RX0 24 "KindTable" "rowLength" "I", .arrayClass .long, .fieldLink RX0 27 "KindTable" "types" "[J", .fieldLink RX0 31 "KindTable" "typeCount" "I", .fieldLink RX0 34 "KindTable" "passedKind" "I", .fieldLink RX0 37 "KindTable" "passedNumber" "J", .methodLink RX0 13 yX0_firstAbove, .static yX0_firstAbove, .initialized RX0, .code yX0_firstAbove cX0_firstAbove 2 (some .int), .methodLink RX0 110 yX0_isBox, .static yX0_isBox, .code yX0_isBox cX0_isBox 1 (some .boolean), .methodLink RX0 113 yX0_isOfNumbers, .static yX0_isOfNumbers, .code yX0_isOfNumbers cX0_isOfNumbers 1 (some .boolean)] ++ wsX00)
def wsX0_isKind : List Cond := .code yX0_isKind cX0_isKind 2 (some .boolean) :: ([.fieldLink RX0 17 "KindTable" "kindCount" "I"] ++ wsX00)
def wsX0_mayBeParent : List Cond := .code yX0_mayBeParent cX0_mayBeParent 2 (some .boolean) :: ([.methodLink RX0 45 yX0_isKind, .instanceMethod yX0_isKind, .selects RX0 yX0_isKind yX0_isKind, .initialized RX0, .code yX0_isKind cX0_isKind 2 (some .boolean), .fieldLink RX0 17 "KindTable" "kindCount" "I"] ++ wsX00)
def wsX0_newClass : List Cond := .code yX0_newClass cX0_newClass 3 (some .int) :: ([.fieldLink RX0 17 "KindTable" "kindCount" "I", .fieldLink RX0 9 "KindTable" "above" "[I", .methodLink RX0 41 yX0_mayBeParent, .instanceMethod yX0_mayBeParent, .selects RX0 yX0_mayBeParent yX0_mayBeParent, .initialized RX0, .code yX0_mayBeParent cX0_mayBeParent 2 (some .boolean), .methodLink RX0 45 yX0_isKind, .instanceMethod yX0_isKind, .selects RX0 yX0_isKind yX0_isKind, .code yX0_isKind cX0_isKind 2 (some .boolean)] ++ wsX00)
def wsX0_isBelow : List Cond := .code yX0_isBelow cX0_isBelow 3 (some .boolean) :: ([.fieldLink RX0 9 "KindTable" "above" "[I"] ++ wsX00)
def wsX0_below : List Cond := .code yX0_below cX0_below 3 (some .boolean) :: ([.methodLink RX0 45 yX0_isKind, .instanceMethod yX0_isKind, .selects RX0 yX0_isKind yX0_isKind, .initialized RX0, .code yX0_isKind cX0_isKind 2 (some .boolean), .fieldLink RX0 17 "KindTable" "kindCount" "I", .methodLink RX0 48 yX0_isBelow, .instanceMethod yX0_isBelow, .selects RX0 yX0_isBelow yX0_isBelow, .code yX0_isBelow cX0_isBelow 3 (some .boolean), .fieldLink RX0 9 "KindTable" "above" "[I"] ++ wsX00)
def wsX0_meet : List Cond := .code yX0_meet cX0_meet 5 (some .int) :: ([.fieldLink RX0 9 "KindTable" "above" "[I", .fieldLink RX0 17 "KindTable" "kindCount" "I", .methodLink RX0 45 yX0_isKind, .instanceMethod yX0_isKind, .selects RX0 yX0_isKind yX0_isKind, .initialized RX0, .code yX0_isKind cX0_isKind 2 (some .boolean)] ++ wsX00)
def wsX0_isPlain : List Cond := .code yX0_isPlain cX0_isPlain 1 (some .boolean) :: ([])
def wsX0_mayWiden : List Cond := .code yX0_mayWiden cX0_mayWiden 2 (some .boolean) :: ([])
def wsX0_mayUnbox : List Cond := .code yX0_mayUnbox cX0_mayUnbox 2 (some .boolean) :: ([.methodLink RX0 113 yX0_isOfNumbers, .static yX0_isOfNumbers, .initialized RX0, .code yX0_isOfNumbers cX0_isOfNumbers 1 (some .boolean), .methodLink RX0 110 yX0_isBox, .static yX0_isBox, .code yX0_isBox cX0_isBox 1 (some .boolean), .methodLink RX0 116 yX0_mayWiden, .static yX0_mayWiden, .code yX0_mayWiden cX0_mayWiden 2 (some .boolean)])
def wsX0_mayPass : List Cond := .code yX0_mayPass cX0_mayPass 4 (some .boolean) :: ([.methodLink RX0 60 yX0_isPlain, .static yX0_isPlain, .initialized RX0, .code yX0_isPlain cX0_isPlain 1 (some .boolean), .methodLink RX0 116 yX0_mayWiden, .static yX0_mayWiden, .code yX0_mayWiden cX0_mayWiden 2 (some .boolean), .methodLink RX0 48 yX0_isBelow, .instanceMethod yX0_isBelow, .selects RX0 yX0_isBelow yX0_isBelow, .code yX0_isBelow cX0_isBelow 3 (some .boolean), .fieldLink RX0 9 "KindTable" "above" "[I", .methodLink RX0 110 yX0_isBox, .static yX0_isBox, .code yX0_isBox cX0_isBox 1 (some .boolean), .methodLink RX0 119 yX0_mayUnbox, .static yX0_mayUnbox, .code yX0_mayUnbox cX0_mayUnbox 2 (some .boolean), .methodLink RX0 113 yX0_isOfNumbers, .static yX0_isOfNumbers, .code yX0_isOfNumbers cX0_isOfNumbers 1 (some .boolean)] ++ wsX00)
def wsX0_may_r1 : List Cond := [Cond.methodLink RX0 45 yX0_isKind, Cond.instanceMethod yX0_isKind, Cond.selects RX0 yX0_isKind yX0_isKind, Cond.initialized RX0, Cond.code yX0_isKind cX0_isKind 2 (some .boolean), Cond.fieldLink RX0 17 "KindTable" "kindCount" "I", Cond.methodLink RX0 52 yX0_mayPass, Cond.instanceMethod yX0_mayPass, Cond.selects RX0 yX0_mayPass yX0_mayPass, Cond.code yX0_mayPass cX0_mayPass 4 (some .boolean), Cond.methodLink RX0 60 yX0_isPlain, Cond.static yX0_isPlain, Cond.code yX0_isPlain cX0_isPlain 1 (some .boolean), Cond.methodLink RX0 116 yX0_mayWiden, Cond.static yX0_mayWiden, Cond.code yX0_mayWiden cX0_mayWiden 2 (some .boolean), Cond.methodLink RX0 48 yX0_isBelow, Cond.instanceMethod yX0_isBelow, Cond.selects RX0 yX0_isBelow yX0_isBelow, Cond.code yX0_isBelow cX0_isBelow 3 (some .boolean), Cond.fieldLink RX0 9 "KindTable" "above" "[I", Cond.methodLink RX0 110 yX0_isBox, Cond.static yX0_isBox, Cond.code yX0_isBox cX0_isBox 1 (some .boolean)]
def wsX0_may_r2 : List Cond := [Cond.methodLink RX0 119 yX0_mayUnbox, Cond.static yX0_mayUnbox, Cond.code yX0_mayUnbox cX0_mayUnbox 2 (some .boolean), Cond.methodLink RX0 113 yX0_isOfNumbers, Cond.static yX0_isOfNumbers, Cond.code yX0_isOfNumbers cX0_isOfNumbers 1 (some .boolean)]
def wsX0_may : List Cond := .code yX0_may cX0_may 5 (some .boolean) :: ((wsX0_may_r1 ++ wsX0_may_r2) ++ wsX00)
def wsX0_lowest : List Cond := .code yX0_lowest cX0_lowest 3 (some .long) :: ([])
def wsX0_fits : List Cond := .code yX0_fits cX0_fits 3 (some .boolean) :: ([.methodLink RX0 122 yX0_lowest, .static yX0_lowest, .initialized RX0, .code yX0_lowest cX0_lowest 3 (some .long)])
def wsX0_keep : List Cond := .code yX0_keep cX0_keep 4 (some .int) :: ([.fieldLink RX0 34 "KindTable" "passedKind" "I", .fieldLink RX0 37 "KindTable" "passedNumber" "J"] ++ wsX00)
def wsX0_passPlain : List Cond := .code yX0_passPlain cX0_passPlain 5 (some .int) :: ([.methodLink RX0 60 yX0_isPlain, .static yX0_isPlain, .initialized RX0, .code yX0_isPlain cX0_isPlain 1 (some .boolean), .methodLink RX0 122 yX0_lowest, .static yX0_lowest, .code yX0_lowest cX0_lowest 3 (some .long), .methodLink RX0 126 yX0_keep, .instanceMethod yX0_keep, .selects RX0 yX0_keep yX0_keep, .code yX0_keep cX0_keep 4 (some .int), .fieldLink RX0 34 "KindTable" "passedKind" "I", .fieldLink RX0 37 "KindTable" "passedNumber" "J"] ++ wsX00)
def wsX0_passNull : List Cond := .code yX0_passNull cX0_passNull 3 (some .int) :: ([.methodLink RX0 60 yX0_isPlain, .static yX0_isPlain, .initialized RX0, .code yX0_isPlain cX0_isPlain 1 (some .boolean), .methodLink RX0 126 yX0_keep, .instanceMethod yX0_keep, .selects RX0 yX0_keep yX0_keep, .code yX0_keep cX0_keep 4 (some .int), .fieldLink RX0 34 "KindTable" "passedKind" "I", .fieldLink RX0 37 "KindTable" "passedNumber" "J"] ++ wsX00)
def wsX0_isObject : List Cond := .code yX0_isObject cX0_isObject 4 (some .boolean) :: ([.methodLink RX0 45 yX0_isKind, .instanceMethod yX0_isKind, .selects RX0 yX0_isKind yX0_isKind, .initialized RX0, .code yX0_isKind cX0_isKind 2 (some .boolean), .fieldLink RX0 17 "KindTable" "kindCount" "I", .methodLink RX0 110 yX0_isBox, .static yX0_isBox, .code yX0_isBox cX0_isBox 1 (some .boolean), .methodLink RX0 63 yX0_fits, .static yX0_fits, .code yX0_fits cX0_fits 3 (some .boolean), .methodLink RX0 122 yX0_lowest, .static yX0_lowest, .code yX0_lowest cX0_lowest 3 (some .long)] ++ wsX00)
def wsX0_passAsPlain : List Cond := .code yX0_passAsPlain cX0_passAsPlain 6 (some .int) :: ([.methodLink RX0 110 yX0_isBox, .static yX0_isBox, .initialized RX0, .code yX0_isBox cX0_isBox 1 (some .boolean), .methodLink RX0 116 yX0_mayWiden, .static yX0_mayWiden, .code yX0_mayWiden cX0_mayWiden 2 (some .boolean), .methodLink RX0 122 yX0_lowest, .static yX0_lowest, .code yX0_lowest cX0_lowest 3 (some .long), .methodLink RX0 126 yX0_keep, .instanceMethod yX0_keep, .selects RX0 yX0_keep yX0_keep, .code yX0_keep cX0_keep 4 (some .int), .fieldLink RX0 34 "KindTable" "passedKind" "I", .fieldLink RX0 37 "KindTable" "passedNumber" "J"] ++ wsX00)
def wsX0_passAsReference : List Cond := .code yX0_passAsReference cX0_passAsReference 5 (some .int) :: ([.methodLink RX0 48 yX0_isBelow, .instanceMethod yX0_isBelow, .selects RX0 yX0_isBelow yX0_isBelow, .initialized RX0, .code yX0_isBelow cX0_isBelow 3 (some .boolean), .fieldLink RX0 9 "KindTable" "above" "[I", .methodLink RX0 126 yX0_keep, .instanceMethod yX0_keep, .selects RX0 yX0_keep yX0_keep, .code yX0_keep cX0_keep 4 (some .int), .fieldLink RX0 34 "KindTable" "passedKind" "I", .fieldLink RX0 37 "KindTable" "passedNumber" "J"] ++ wsX00)
def wsX0_pass_r1 : List Cond := [Cond.methodLink RX0 56 yX0_may, Cond.instanceMethod yX0_may, Cond.selects RX0 yX0_may yX0_may, Cond.initialized RX0, Cond.code yX0_may cX0_may 5 (some .boolean), Cond.methodLink RX0 45 yX0_isKind, Cond.instanceMethod yX0_isKind, Cond.selects RX0 yX0_isKind yX0_isKind, Cond.code yX0_isKind cX0_isKind 2 (some .boolean), Cond.fieldLink RX0 17 "KindTable" "kindCount" "I", Cond.methodLink RX0 52 yX0_mayPass, Cond.instanceMethod yX0_mayPass, Cond.selects RX0 yX0_mayPass yX0_mayPass, Cond.code yX0_mayPass cX0_mayPass 4 (some .boolean), Cond.methodLink RX0 60 yX0_isPlain, Cond.static yX0_isPlain, Cond.code yX0_isPlain cX0_isPlain 1 (some .boolean), Cond.methodLink RX0 116 yX0_mayWiden, Cond.static yX0_mayWiden, Cond.code yX0_mayWiden cX0_mayWiden 2 (some .boolean), Cond.methodLink RX0 48 yX0_isBelow, Cond.instanceMethod yX0_isBelow, Cond.selects RX0 yX0_isBelow yX0_isBelow, Cond.code yX0_isBelow cX0_isBelow 3 (some .boolean)]
def wsX0_pass_r2 : List Cond := [Cond.fieldLink RX0 9 "KindTable" "above" "[I", Cond.methodLink RX0 110 yX0_isBox, Cond.static yX0_isBox, Cond.code yX0_isBox cX0_isBox 1 (some .boolean), Cond.methodLink RX0 119 yX0_mayUnbox, Cond.static yX0_mayUnbox, Cond.code yX0_mayUnbox cX0_mayUnbox 2 (some .boolean), Cond.methodLink RX0 113 yX0_isOfNumbers, Cond.static yX0_isOfNumbers, Cond.code yX0_isOfNumbers cX0_isOfNumbers 1 (some .boolean), Cond.methodLink RX0 63 yX0_fits, Cond.static yX0_fits, Cond.code yX0_fits cX0_fits 3 (some .boolean), Cond.methodLink RX0 122 yX0_lowest, Cond.static yX0_lowest, Cond.code yX0_lowest cX0_lowest 3 (some .long), Cond.methodLink RX0 67 yX0_passPlain, Cond.instanceMethod yX0_passPlain, Cond.selects RX0 yX0_passPlain yX0_passPlain, Cond.code yX0_passPlain cX0_passPlain 5 (some .int), Cond.methodLink RX0 126 yX0_keep, Cond.instanceMethod yX0_keep, Cond.selects RX0 yX0_keep yX0_keep, Cond.code yX0_keep cX0_keep 4 (some .int)]
def wsX0_pass_r3 : List Cond := [Cond.fieldLink RX0 34 "KindTable" "passedKind" "I", Cond.fieldLink RX0 37 "KindTable" "passedNumber" "J", Cond.methodLink RX0 71 yX0_passNull, Cond.instanceMethod yX0_passNull, Cond.selects RX0 yX0_passNull yX0_passNull, Cond.code yX0_passNull cX0_passNull 3 (some .int), Cond.methodLink RX0 75 yX0_isObject, Cond.instanceMethod yX0_isObject, Cond.selects RX0 yX0_isObject yX0_isObject, Cond.code yX0_isObject cX0_isObject 4 (some .boolean), Cond.methodLink RX0 78 yX0_passAsPlain, Cond.instanceMethod yX0_passAsPlain, Cond.selects RX0 yX0_passAsPlain yX0_passAsPlain, Cond.code yX0_passAsPlain cX0_passAsPlain 6 (some .int), Cond.methodLink RX0 82 yX0_passAsReference, Cond.instanceMethod yX0_passAsReference, Cond.selects RX0 yX0_passAsReference yX0_passAsReference, Cond.code yX0_passAsReference cX0_passAsReference 5 (some .int)]
def wsX0_pass : List Cond := .code yX0_pass cX0_pass 7 (some .int) :: ((wsX0_pass_r1 ++ (wsX0_pass_r2 ++ wsX0_pass_r3)) ++ wsX00)
def wsX0_kind : List Cond := .code yX0_kind cX0_kind 1 (some .int) :: ([.fieldLink RX0 34 "KindTable" "passedKind" "I"] ++ wsX00)
def wsX0_number : List Cond := .code yX0_number cX0_number 1 (some .long) :: ([.fieldLink RX0 37 "KindTable" "passedNumber" "J"] ++ wsX00)
def wsX0_put : List Cond := .code yX0_put cX0_put 2 (some .boolean) :: ([.fieldLink RX0 24 "KindTable" "rowLength" "I", .fieldLink RX0 21 "KindTable" "row" "[I"] ++ wsX00)
def wsX0_placesOf : List Cond := .code yX0_placesOf cX0_placesOf 2 (some .int) :: ([.constantLong RX0 132 (15)])
def wsX0_placeBit : List Cond := .code yX0_placeBit cX0_placeBit 1 (some .int) :: ([])
def wsX0_withPlace : List Cond := .code yX0_withPlace cX0_withPlace 3 (some .long) :: ([.constantLong RX0 137 (32), .methodLink RX0 99 yX0_placesOf, .static yX0_placesOf, .initialized RX0, .code yX0_placesOf cX0_placesOf 2 (some .int), .constantLong RX0 132 (15), .methodLink RX0 134 yX0_placeBit, .static yX0_placeBit, .code yX0_placeBit cX0_placeBit 1 (some .int)])
def wsX0_numberOf : List Cond := .code yX0_numberOf cX0_numberOf 4 (some .int) :: ([.fieldLink RX0 31 "KindTable" "typeCount" "I", .fieldLink RX0 27 "KindTable" "types" "[J"] ++ wsX00)
def wsX0_type_r1 : List Cond := [Cond.fieldLink RX0 24 "KindTable" "rowLength" "I", Cond.fieldLink RX0 21 "KindTable" "row" "[I", Cond.methodLink RX0 45 yX0_isKind, Cond.instanceMethod yX0_isKind, Cond.selects RX0 yX0_isKind yX0_isKind, Cond.initialized RX0, Cond.code yX0_isKind cX0_isKind 2 (some .boolean), Cond.fieldLink RX0 17 "KindTable" "kindCount" "I", Cond.methodLink RX0 85 yX0_withPlace, Cond.static yX0_withPlace, Cond.code yX0_withPlace cX0_withPlace 3 (some .long), Cond.constantLong RX0 137 (32), Cond.methodLink RX0 99 yX0_placesOf, Cond.static yX0_placesOf, Cond.code yX0_placesOf cX0_placesOf 2 (some .int), Cond.constantLong RX0 132 (15), Cond.methodLink RX0 134 yX0_placeBit, Cond.static yX0_placeBit, Cond.code yX0_placeBit cX0_placeBit 1 (some .int), Cond.methodLink RX0 89 yX0_numberOf, Cond.instanceMethod yX0_numberOf, Cond.selects RX0 yX0_numberOf yX0_numberOf, Cond.code yX0_numberOf cX0_numberOf 4 (some .int), Cond.fieldLink RX0 31 "KindTable" "typeCount" "I"]
def wsX0_type_r2 : List Cond := [Cond.fieldLink RX0 27 "KindTable" "types" "[J"]
def wsX0_type : List Cond := .code yX0_type cX0_type 6 (some .int) :: ((wsX0_type_r1 ++ wsX0_type_r2) ++ wsX00)
def wsX0_isType : List Cond := .code yX0_isType cX0_isType 2 (some .boolean) :: ([.fieldLink RX0 31 "KindTable" "typeCount" "I"] ++ wsX00)
def wsX0_resultOf : List Cond := .code yX0_resultOf cX0_resultOf 2 (some .int) :: ([.constantLong RX0 130 (31)])
def wsX0_placeOf : List Cond := .code yX0_placeOf cX0_placeOf 3 (some .int) :: ([.constantLong RX0 130 (31), .methodLink RX0 134 yX0_placeBit, .static yX0_placeBit, .initialized RX0, .code yX0_placeBit cX0_placeBit 1 (some .int)])
def wsX0_typeAbout : List Cond := .code yX0_typeAbout cX0_typeAbout 5 (some .int) :: ([.fieldLink RX0 27 "KindTable" "types" "[J", .methodLink RX0 93 yX0_isType, .instanceMethod yX0_isType, .selects RX0 yX0_isType yX0_isType, .initialized RX0, .code yX0_isType cX0_isType 2 (some .boolean), .fieldLink RX0 31 "KindTable" "typeCount" "I", .methodLink RX0 96 yX0_resultOf, .static yX0_resultOf, .code yX0_resultOf cX0_resultOf 2 (some .int), .constantLong RX0 130 (31), .methodLink RX0 99 yX0_placesOf, .static yX0_placesOf, .code yX0_placesOf cX0_placesOf 2 (some .int), .constantLong RX0 132 (15), .methodLink RX0 102 yX0_placeOf, .static yX0_placeOf, .code yX0_placeOf cX0_placeOf 3 (some .int), .methodLink RX0 134 yX0_placeBit, .static yX0_placeBit, .code yX0_placeBit cX0_placeBit 1 (some .int)] ++ wsX00)
def wsX0_mayBe_r1 : List Cond := [Cond.fieldLink RX0 27 "KindTable" "types" "[J", Cond.methodLink RX0 93 yX0_isType, Cond.instanceMethod yX0_isType, Cond.selects RX0 yX0_isType yX0_isType, Cond.initialized RX0, Cond.code yX0_isType cX0_isType 2 (some .boolean), Cond.fieldLink RX0 31 "KindTable" "typeCount" "I", Cond.methodLink RX0 99 yX0_placesOf, Cond.static yX0_placesOf, Cond.code yX0_placesOf cX0_placesOf 2 (some .int), Cond.constantLong RX0 132 (15), Cond.methodLink RX0 96 yX0_resultOf, Cond.static yX0_resultOf, Cond.code yX0_resultOf cX0_resultOf 2 (some .int), Cond.constantLong RX0 130 (31), Cond.methodLink RX0 56 yX0_may, Cond.instanceMethod yX0_may, Cond.selects RX0 yX0_may yX0_may, Cond.code yX0_may cX0_may 5 (some .boolean), Cond.methodLink RX0 45 yX0_isKind, Cond.instanceMethod yX0_isKind, Cond.selects RX0 yX0_isKind yX0_isKind, Cond.code yX0_isKind cX0_isKind 2 (some .boolean), Cond.fieldLink RX0 17 "KindTable" "kindCount" "I"]
def wsX0_mayBe_r2 : List Cond := [Cond.methodLink RX0 52 yX0_mayPass, Cond.instanceMethod yX0_mayPass, Cond.selects RX0 yX0_mayPass yX0_mayPass, Cond.code yX0_mayPass cX0_mayPass 4 (some .boolean), Cond.methodLink RX0 60 yX0_isPlain, Cond.static yX0_isPlain, Cond.code yX0_isPlain cX0_isPlain 1 (some .boolean), Cond.methodLink RX0 116 yX0_mayWiden, Cond.static yX0_mayWiden, Cond.code yX0_mayWiden cX0_mayWiden 2 (some .boolean), Cond.methodLink RX0 48 yX0_isBelow, Cond.instanceMethod yX0_isBelow, Cond.selects RX0 yX0_isBelow yX0_isBelow, Cond.code yX0_isBelow cX0_isBelow 3 (some .boolean), Cond.fieldLink RX0 9 "KindTable" "above" "[I", Cond.methodLink RX0 110 yX0_isBox, Cond.static yX0_isBox, Cond.code yX0_isBox cX0_isBox 1 (some .boolean), Cond.methodLink RX0 119 yX0_mayUnbox, Cond.static yX0_mayUnbox, Cond.code yX0_mayUnbox cX0_mayUnbox 2 (some .boolean), Cond.methodLink RX0 113 yX0_isOfNumbers, Cond.static yX0_isOfNumbers, Cond.code yX0_isOfNumbers cX0_isOfNumbers 1 (some .boolean)]
def wsX0_mayBe_r3 : List Cond := [Cond.methodLink RX0 102 yX0_placeOf, Cond.static yX0_placeOf, Cond.code yX0_placeOf cX0_placeOf 3 (some .int), Cond.methodLink RX0 134 yX0_placeBit, Cond.static yX0_placeBit, Cond.code yX0_placeBit cX0_placeBit 1 (some .int)]
def wsX0_mayBe : List Cond := .code yX0_mayBe cX0_mayBe 10 (some .boolean) :: ((wsX0_mayBe_r1 ++ (wsX0_mayBe_r2 ++ wsX0_mayBe_r3)) ++ wsX00)
def wsX0_withPlacesOf : List Cond := .code yX0_withPlacesOf cX0_withPlacesOf 9 (some .long) :: ([.methodLink RX0 102 yX0_placeOf, .static yX0_placeOf, .initialized RX0, .code yX0_placeOf cX0_placeOf 3 (some .int), .constantLong RX0 130 (31), .methodLink RX0 134 yX0_placeBit, .static yX0_placeBit, .code yX0_placeBit cX0_placeBit 1 (some .int), .methodLink RX0 85 yX0_withPlace, .static yX0_withPlace, .code yX0_withPlace cX0_withPlace 3 (some .long), .constantLong RX0 137 (32), .methodLink RX0 99 yX0_placesOf, .static yX0_placesOf, .code yX0_placesOf cX0_placesOf 2 (some .int), .constantLong RX0 132 (15)])
def wsX0_changed_r1 : List Cond := [Cond.fieldLink RX0 27 "KindTable" "types" "[J", Cond.methodLink RX0 93 yX0_isType, Cond.instanceMethod yX0_isType, Cond.selects RX0 yX0_isType yX0_isType, Cond.initialized RX0, Cond.code yX0_isType cX0_isType 2 (some .boolean), Cond.fieldLink RX0 31 "KindTable" "typeCount" "I", Cond.methodLink RX0 99 yX0_placesOf, Cond.static yX0_placesOf, Cond.code yX0_placesOf cX0_placesOf 2 (some .int), Cond.constantLong RX0 132 (15), Cond.methodLink RX0 96 yX0_resultOf, Cond.static yX0_resultOf, Cond.code yX0_resultOf cX0_resultOf 2 (some .int), Cond.constantLong RX0 130 (31), Cond.methodLink RX0 106 yX0_withPlacesOf, Cond.static yX0_withPlacesOf, Cond.code yX0_withPlacesOf cX0_withPlacesOf 9 (some .long), Cond.methodLink RX0 102 yX0_placeOf, Cond.static yX0_placeOf, Cond.code yX0_placeOf cX0_placeOf 3 (some .int), Cond.methodLink RX0 134 yX0_placeBit, Cond.static yX0_placeBit, Cond.code yX0_placeBit cX0_placeBit 1 (some .int)]
def wsX0_changed_r2 : List Cond := [Cond.methodLink RX0 85 yX0_withPlace, Cond.static yX0_withPlace, Cond.code yX0_withPlace cX0_withPlace 3 (some .long), Cond.constantLong RX0 137 (32), Cond.methodLink RX0 89 yX0_numberOf, Cond.instanceMethod yX0_numberOf, Cond.selects RX0 yX0_numberOf yX0_numberOf, Cond.code yX0_numberOf cX0_numberOf 4 (some .int)]
def wsX0_changed : List Cond := .code yX0_changed cX0_changed 12 (some .int) :: ((wsX0_changed_r1 ++ wsX0_changed_r2) ++ wsX00)
def wsX1_init : List Cond := .code yX1_init cX1_init 1 none :: ([.methodLink RX1 1 objectInit, .instanceMethod objectInit, .code objectInit ⟨#[0xb1]⟩ 1 none, .arrayClass .int, .fieldLink RX1 7 "KindTableModel" "parent" "[I", .fieldLink RX1 13 "KindTableModel" "typeResult" "[I", .fieldLink RX1 16 "KindTableModel" "typeMany" "[I", .fieldLink RX1 19 "KindTableModel" "typePlace" "[I", .fieldLink RX1 22 "KindTableModel" "row" "[I", .fieldLink RX1 25 "KindTableModel" "newPlace" "[I"] ++ wsX10)
def wsX1_isKind : List Cond := .code yX1_isKind cX1_isKind 2 (some .boolean) :: ([.fieldLink RX1 28 "KindTableModel" "classes" "I"] ++ wsX10)
def wsX1_newClass : List Cond := .code yX1_newClass cX1_newClass 2 (some .int) :: ([.fieldLink RX1 28 "KindTableModel" "classes" "I", .fieldLink RX1 7 "KindTableModel" "parent" "[I", .methodLink RX1 68 yX1_isKind, .instanceMethod yX1_isKind, .selects RX1 yX1_isKind yX1_isKind, .initialized RX1, .code yX1_isKind cX1_isKind 2 (some .boolean)] ++ wsX10)
def wsX1_below : List Cond := .code yX1_below cX1_below 3 (some .boolean) :: ([.methodLink RX1 68 yX1_isKind, .instanceMethod yX1_isKind, .selects RX1 yX1_isKind yX1_isKind, .initialized RX1, .code yX1_isKind cX1_isKind 2 (some .boolean), .fieldLink RX1 28 "KindTableModel" "classes" "I"] ++ wsX10)
def wsL_law_r1 : List Cond := [Cond.classLink RL 7 RX0, Cond.instantiable RX0 8, Cond.initialized RX0, Cond.classLink RL 10 RX1, Cond.instantiable RX1 13, Cond.initialized RX1, Cond.methodLink RL 9 yX0_init, Cond.instanceMethod yX0_init, Cond.code yX0_init cX0_init 2 none, Cond.methodLink RX0 3 objectInit, Cond.instanceMethod objectInit, Cond.code objectInit ⟨#[0xb1]⟩ 1 none, Cond.arrayClass .int, Cond.fieldLink RX0 9 "KindTable" "above" "[I", Cond.fieldLink RX0 17 "KindTable" "kindCount" "I", Cond.fieldLink RX0 21 "KindTable" "row" "[I", Cond.fieldLink RX0 24 "KindTable" "rowLength" "I", Cond.arrayClass .long, Cond.fieldLink RX0 27 "KindTable" "types" "[J", Cond.fieldLink RX0 31 "KindTable" "typeCount" "I", Cond.fieldLink RX0 34 "KindTable" "passedKind" "I", Cond.fieldLink RX0 37 "KindTable" "passedNumber" "J", Cond.methodLink RX0 13 yX0_firstAbove, Cond.static yX0_firstAbove]
def wsL_law_r2 : List Cond := [Cond.code yX0_firstAbove cX0_firstAbove 2 (some .int), Cond.methodLink RX0 110 yX0_isBox, Cond.static yX0_isBox, Cond.code yX0_isBox cX0_isBox 1 (some .boolean), Cond.methodLink RX0 113 yX0_isOfNumbers, Cond.static yX0_isOfNumbers, Cond.code yX0_isOfNumbers cX0_isOfNumbers 1 (some .boolean), Cond.methodLink RL 12 yX1_init, Cond.instanceMethod yX1_init, Cond.code yX1_init cX1_init 1 none, Cond.methodLink RX1 1 objectInit, Cond.fieldLink RX1 7 "KindTableModel" "parent" "[I", Cond.fieldLink RX1 13 "KindTableModel" "typeResult" "[I", Cond.fieldLink RX1 16 "KindTableModel" "typeMany" "[I", Cond.fieldLink RX1 19 "KindTableModel" "typePlace" "[I", Cond.fieldLink RX1 22 "KindTableModel" "row" "[I", Cond.fieldLink RX1 25 "KindTableModel" "newPlace" "[I", Cond.methodLink RL 13 yX0_newClass, Cond.instanceMethod yX0_newClass, Cond.selects RX0 yX0_newClass yX0_newClass, Cond.code yX0_newClass cX0_newClass 3 (some .int), Cond.methodLink RX0 41 yX0_mayBeParent, Cond.instanceMethod yX0_mayBeParent, Cond.selects RX0 yX0_mayBeParent yX0_mayBeParent]
def wsL_law_r3 : List Cond := [Cond.code yX0_mayBeParent cX0_mayBeParent 2 (some .boolean), Cond.methodLink RX0 45 yX0_isKind, Cond.instanceMethod yX0_isKind, Cond.selects RX0 yX0_isKind yX0_isKind, Cond.code yX0_isKind cX0_isKind 2 (some .boolean), Cond.methodLink RL 17 yX1_newClass, Cond.instanceMethod yX1_newClass, Cond.selects RX1 yX1_newClass yX1_newClass, Cond.code yX1_newClass cX1_newClass 2 (some .int), Cond.fieldLink RX1 28 "KindTableModel" "classes" "I", Cond.methodLink RX1 68 yX1_isKind, Cond.instanceMethod yX1_isKind, Cond.selects RX1 yX1_isKind yX1_isKind, Cond.code yX1_isKind cX1_isKind 2 (some .boolean), Cond.methodLink RL 18 yX0_below, Cond.instanceMethod yX0_below, Cond.selects RX0 yX0_below yX0_below, Cond.code yX0_below cX0_below 3 (some .boolean), Cond.methodLink RX0 48 yX0_isBelow, Cond.instanceMethod yX0_isBelow, Cond.selects RX0 yX0_isBelow yX0_isBelow, Cond.code yX0_isBelow cX0_isBelow 3 (some .boolean), Cond.methodLink RL 22 yX1_below, Cond.instanceMethod yX1_below]
def wsL_law_r4 : List Cond := [Cond.selects RX1 yX1_below yX1_below, Cond.code yX1_below cX1_below 3 (some .boolean), Cond.methodLink RL 23 yX0_meet, Cond.instanceMethod yX0_meet, Cond.selects RX0 yX0_meet yX0_meet, Cond.code yX0_meet cX0_meet 5 (some .int), Cond.methodLink RL 28 yX0_may, Cond.instanceMethod yX0_may, Cond.selects RX0 yX0_may yX0_may, Cond.code yX0_may cX0_may 5 (some .boolean), Cond.methodLink RX0 52 yX0_mayPass, Cond.instanceMethod yX0_mayPass, Cond.selects RX0 yX0_mayPass yX0_mayPass, Cond.code yX0_mayPass cX0_mayPass 4 (some .boolean), Cond.methodLink RX0 60 yX0_isPlain, Cond.static yX0_isPlain, Cond.code yX0_isPlain cX0_isPlain 1 (some .boolean), Cond.methodLink RX0 116 yX0_mayWiden, Cond.static yX0_mayWiden, Cond.code yX0_mayWiden cX0_mayWiden 2 (some .boolean), Cond.methodLink RX0 119 yX0_mayUnbox, Cond.static yX0_mayUnbox, Cond.code yX0_mayUnbox cX0_mayUnbox 2 (some .boolean), Cond.methodLink RL 35 yX0_pass]
def wsL_law_r5 : List Cond := [Cond.instanceMethod yX0_pass, Cond.selects RX0 yX0_pass yX0_pass, Cond.code yX0_pass cX0_pass 7 (some .int), Cond.methodLink RX0 56 yX0_may, Cond.methodLink RX0 63 yX0_fits, Cond.static yX0_fits, Cond.code yX0_fits cX0_fits 3 (some .boolean), Cond.methodLink RX0 122 yX0_lowest, Cond.static yX0_lowest, Cond.code yX0_lowest cX0_lowest 3 (some .long), Cond.methodLink RX0 67 yX0_passPlain, Cond.instanceMethod yX0_passPlain, Cond.selects RX0 yX0_passPlain yX0_passPlain, Cond.code yX0_passPlain cX0_passPlain 5 (some .int), Cond.methodLink RX0 126 yX0_keep, Cond.instanceMethod yX0_keep, Cond.selects RX0 yX0_keep yX0_keep, Cond.code yX0_keep cX0_keep 4 (some .int), Cond.methodLink RX0 71 yX0_passNull, Cond.instanceMethod yX0_passNull, Cond.selects RX0 yX0_passNull yX0_passNull, Cond.code yX0_passNull cX0_passNull 3 (some .int), Cond.methodLink RX0 75 yX0_isObject, Cond.instanceMethod yX0_isObject]
def wsL_law_r6 : List Cond := [Cond.selects RX0 yX0_isObject yX0_isObject, Cond.code yX0_isObject cX0_isObject 4 (some .boolean), Cond.methodLink RX0 78 yX0_passAsPlain, Cond.instanceMethod yX0_passAsPlain, Cond.selects RX0 yX0_passAsPlain yX0_passAsPlain, Cond.code yX0_passAsPlain cX0_passAsPlain 6 (some .int), Cond.methodLink RX0 82 yX0_passAsReference, Cond.instanceMethod yX0_passAsReference, Cond.selects RX0 yX0_passAsReference yX0_passAsReference, Cond.code yX0_passAsReference cX0_passAsReference 5 (some .int), Cond.methodLink RL 40 yX0_kind, Cond.instanceMethod yX0_kind, Cond.selects RX0 yX0_kind yX0_kind, Cond.code yX0_kind cX0_kind 1 (some .int), Cond.methodLink RL 45 yX0_number, Cond.instanceMethod yX0_number, Cond.selects RX0 yX0_number yX0_number, Cond.code yX0_number cX0_number 1 (some .long), Cond.methodLink RL 50 yX0_put, Cond.instanceMethod yX0_put, Cond.selects RX0 yX0_put yX0_put, Cond.code yX0_put cX0_put 2 (some .boolean), Cond.methodLink RL 55 yX0_type, Cond.instanceMethod yX0_type]
def wsL_law_r7 : List Cond := [Cond.selects RX0 yX0_type yX0_type, Cond.code yX0_type cX0_type 6 (some .int), Cond.methodLink RX0 85 yX0_withPlace, Cond.static yX0_withPlace, Cond.code yX0_withPlace cX0_withPlace 3 (some .long), Cond.constantLong RX0 137 (32), Cond.methodLink RX0 99 yX0_placesOf, Cond.static yX0_placesOf, Cond.code yX0_placesOf cX0_placesOf 2 (some .int), Cond.constantLong RX0 132 (15), Cond.methodLink RX0 134 yX0_placeBit, Cond.static yX0_placeBit, Cond.code yX0_placeBit cX0_placeBit 1 (some .int), Cond.methodLink RX0 89 yX0_numberOf, Cond.instanceMethod yX0_numberOf, Cond.selects RX0 yX0_numberOf yX0_numberOf, Cond.code yX0_numberOf cX0_numberOf 4 (some .int), Cond.methodLink RL 59 yX0_typeAbout, Cond.instanceMethod yX0_typeAbout, Cond.selects RX0 yX0_typeAbout yX0_typeAbout, Cond.code yX0_typeAbout cX0_typeAbout 5 (some .int), Cond.methodLink RX0 93 yX0_isType, Cond.instanceMethod yX0_isType, Cond.selects RX0 yX0_isType yX0_isType]
def wsL_law_r8 : List Cond := [Cond.code yX0_isType cX0_isType 2 (some .boolean), Cond.methodLink RX0 96 yX0_resultOf, Cond.static yX0_resultOf, Cond.code yX0_resultOf cX0_resultOf 2 (some .int), Cond.constantLong RX0 130 (31), Cond.methodLink RX0 102 yX0_placeOf, Cond.static yX0_placeOf, Cond.code yX0_placeOf cX0_placeOf 3 (some .int), Cond.methodLink RL 63 yX0_mayBe, Cond.instanceMethod yX0_mayBe, Cond.selects RX0 yX0_mayBe yX0_mayBe, Cond.code yX0_mayBe cX0_mayBe 10 (some .boolean), Cond.methodLink RL 68 yX0_changed, Cond.instanceMethod yX0_changed, Cond.selects RX0 yX0_changed yX0_changed, Cond.code yX0_changed cX0_changed 12 (some .int), Cond.methodLink RX0 106 yX0_withPlacesOf, Cond.static yX0_withPlacesOf, Cond.code yX0_withPlacesOf cX0_withPlacesOf 9 (some .long)]
def wsL_law : List Cond := (wsL_law_r1 ++ (wsL_law_r2 ++ (wsL_law_r3 ++ (wsL_law_r4 ++ (wsL_law_r5 ++ (wsL_law_r6 ++ (wsL_law_r7 ++ wsL_law_r8))))))) ++ wsX00 ++ wsX10 ++ ([] : List Cond)
set_option maxRecDepth 20000 in
theorem wsL_law_in : ∀ w ∈ wsL_law, w ∈ lw_tbl := fun w h => (goodIn_p wsL_law [28, 31, 34, 37, 40, 205, 71, 75, 79, 250, 254, 83, 87, 258, 91, 95, 99, 102, 105, 108, 112, 116, 119, 123, 127, 131, 135, 139, 143, 147, 151, 155, 159, 162, 166, 170, 174, 178, 182, 185, 189, 193, 197, 200] (by decide +kernel) (by decide +kernel) w h).1
theorem inlX0 : ∀ w ∈ wsX00, w ∈ wsL_law := fun _ h => List.mem_append_left _ (List.mem_append_left _ (List.mem_append_right _ h))
theorem inX0 : ∀ w ∈ wsX00, w ∈ lw_tbl := fun w h => wsL_law_in w (inlX0 w h)
theorem inlX1 : ∀ w ∈ wsX10, w ∈ wsL_law := fun _ h => List.mem_append_left _ (List.mem_append_right _ h)
theorem inX1 : ∀ w ∈ wsX10, w ∈ lw_tbl := fun w h => wsL_law_in w (inlX1 w h)
set_option maxRecDepth 20000 in
theorem ggX0_init_X0_firstAbove : GoodIn wsX0_init wsX0_firstAbove := goodIn_r _ [17, 18, 19, 16, 20, 21, 22, 23] (by decide +kernel) (by decide +kernel)
set_option maxRecDepth 20000 in
theorem gX0_init_X0_firstAbove : GoodIn wsX0_init (va_wsS RX0 13 yX0_firstAbove wsX0_firstAbove) := goodIn_app (goodIn_of _ (by decide +kernel)) ggX0_init_X0_firstAbove
theorem dX0_init_0 : decode cX0_init 0 = .ok (.aload_n 0, 1) := by decide +kernel
theorem dX0_init_1 : decode cX0_init 1 = .ok (.invokespecial 3, 3) := by decide +kernel
theorem dX0_init_4 : decode cX0_init 4 = .ok (.aload_n 0, 1) := by decide +kernel
theorem dX0_init_5 : decode cX0_init 5 = .ok (.bipush 32, 2) := by decide +kernel
theorem dX0_init_7 : decode cX0_init 7 = .ok (.newarray .int, 2) := by decide +kernel
theorem dX0_init_9 : decode cX0_init 9 = .ok (.putfield 9, 3) := by decide +kernel
theorem dX0_init_12 : decode cX0_init 12 = .ok (.iconst 0, 1) := by decide +kernel
theorem dX0_init_13 : decode cX0_init 13 = .ok (.istore_n 1, 1) := by decide +kernel
theorem dX0_init_14 : decode cX0_init 14 = .ok (.iload_n 1, 1) := by decide +kernel
end
section
theorem dX0_init_15 : decode cX0_init 15 = .ok (.bipush 20, 2) := by decide +kernel
theorem dX0_init_17 : decode cX0_init 17 = .ok (.if_icmp .ge 19, 3) := by decide +kernel
theorem dX0_init_20 : decode cX0_init 20 = .ok (.aload_n 0, 1) := by decide +kernel
theorem dX0_init_21 : decode cX0_init 21 = .ok (.getfield 9, 3) := by decide +kernel
theorem dX0_init_24 : decode cX0_init 24 = .ok (.iload_n 1, 1) := by decide +kernel
theorem dX0_init_25 : decode cX0_init 25 = .ok (.iload_n 1, 1) := by decide +kernel
theorem dX0_init_26 : decode cX0_init 26 = .ok (.invokestatic 13, 3) := by decide +kernel
theorem dX0_init_29 : decode cX0_init 29 = .ok (.iastore, 1) := by decide +kernel
theorem dX0_init_30 : decode cX0_init 30 = .ok (.iinc 1 1, 3) := by decide +kernel
theorem dX0_init_33 : decode cX0_init 33 = .ok (.goto (-19), 3) := by decide +kernel
theorem dX0_init_36 : decode cX0_init 36 = .ok (.aload_n 0, 1) := by decide +kernel
theorem dX0_init_37 : decode cX0_init 37 = .ok (.bipush 20, 2) := by decide +kernel
theorem dX0_init_39 : decode cX0_init 39 = .ok (.putfield 17, 3) := by decide +kernel
theorem dX0_init_42 : decode cX0_init 42 = .ok (.aload_n 0, 1) := by decide +kernel
theorem dX0_init_43 : decode cX0_init 43 = .ok (.bipush 20, 2) := by decide +kernel
theorem dX0_init_45 : decode cX0_init 45 = .ok (.newarray .int, 2) := by decide +kernel
theorem dX0_init_47 : decode cX0_init 47 = .ok (.putfield 21, 3) := by decide +kernel
theorem dX0_init_50 : decode cX0_init 50 = .ok (.aload_n 0, 1) := by decide +kernel
theorem dX0_init_51 : decode cX0_init 51 = .ok (.iconst 0, 1) := by decide +kernel
theorem dX0_init_52 : decode cX0_init 52 = .ok (.putfield 24, 3) := by decide +kernel
theorem dX0_init_55 : decode cX0_init 55 = .ok (.aload_n 0, 1) := by decide +kernel
theorem dX0_init_56 : decode cX0_init 56 = .ok (.sipush 300, 3) := by decide +kernel
theorem dX0_init_59 : decode cX0_init 59 = .ok (.newarray .long, 2) := by decide +kernel
theorem dX0_init_61 : decode cX0_init 61 = .ok (.putfield 27, 3) := by decide +kernel
theorem dX0_init_64 : decode cX0_init 64 = .ok (.aload_n 0, 1) := by decide +kernel
theorem dX0_init_65 : decode cX0_init 65 = .ok (.iconst 0, 1) := by decide +kernel
theorem dX0_init_66 : decode cX0_init 66 = .ok (.putfield 31, 3) := by decide +kernel
theorem dX0_init_69 : decode cX0_init 69 = .ok (.aload_n 0, 1) := by decide +kernel
theorem dX0_init_70 : decode cX0_init 70 = .ok (.iconst 0, 1) := by decide +kernel
theorem dX0_init_71 : decode cX0_init 71 = .ok (.putfield 34, 3) := by decide +kernel
theorem dX0_init_74 : decode cX0_init 74 = .ok (.aload_n 0, 1) := by decide +kernel
theorem dX0_init_75 : decode cX0_init 75 = .ok (.lconst 0, 1) := by decide +kernel
theorem dX0_init_76 : decode cX0_init 76 = .ok (.putfield 37, 3) := by decide +kernel
theorem dX0_init_79 : decode cX0_init 79 = .ok (.return_, 1) := by decide +kernel
set_option maxRecDepth 20000 in
theorem ggX0_newClass_X0_mayBeParent : GoodIn wsX0_newClass wsX0_mayBeParent := goodIn_r _ [7, 8, 9, 10, 6, 11, 1, 12, 13, 14, 15, 16, 17, 18, 19] (by decide +kernel) (by decide +kernel)
set_option maxRecDepth 20000 in
theorem gX0_newClass_X0_mayBeParent : GoodIn wsX0_newClass (wsV RX0 41 RX0 yX0_mayBeParent wsX0_mayBeParent) := goodIn_app (goodIn_of _ (by decide +kernel)) ggX0_newClass_X0_mayBeParent
theorem dX0_newClass_0 : decode cX0_newClass 0 = .ok (.aload_n 0, 1) := by decide +kernel
theorem dX0_newClass_1 : decode cX0_newClass 1 = .ok (.getfield 17, 3) := by decide +kernel
theorem dX0_newClass_4 : decode cX0_newClass 4 = .ok (.bipush 32, 2) := by decide +kernel
theorem dX0_newClass_6 : decode cX0_newClass 6 = .ok (.if_icmp .ge 11, 3) := by decide +kernel
theorem dX0_newClass_9 : decode cX0_newClass 9 = .ok (.aload_n 0, 1) := by decide +kernel
theorem dX0_newClass_10 : decode cX0_newClass 10 = .ok (.iload_n 1, 1) := by decide +kernel
theorem dX0_newClass_11 : decode cX0_newClass 11 = .ok (.invokevirtual 41, 3) := by decide +kernel
theorem dX0_newClass_14 : decode cX0_newClass 14 = .ok (.ifCond .ne 5, 3) := by decide +kernel
theorem dX0_newClass_17 : decode cX0_newClass 17 = .ok (.iconst (-1), 1) := by decide +kernel
theorem dX0_newClass_18 : decode cX0_newClass 18 = .ok (.ireturn, 1) := by decide +kernel
theorem dX0_newClass_19 : decode cX0_newClass 19 = .ok (.aload_n 0, 1) := by decide +kernel
theorem dX0_newClass_20 : decode cX0_newClass 20 = .ok (.getfield 17, 3) := by decide +kernel
theorem dX0_newClass_23 : decode cX0_newClass 23 = .ok (.istore_n 2, 1) := by decide +kernel
theorem dX0_newClass_24 : decode cX0_newClass 24 = .ok (.aload_n 0, 1) := by decide +kernel
theorem dX0_newClass_25 : decode cX0_newClass 25 = .ok (.getfield 9, 3) := by decide +kernel
theorem dX0_newClass_28 : decode cX0_newClass 28 = .ok (.iload_n 2, 1) := by decide +kernel
theorem dX0_newClass_29 : decode cX0_newClass 29 = .ok (.aload_n 0, 1) := by decide +kernel
theorem dX0_newClass_30 : decode cX0_newClass 30 = .ok (.getfield 9, 3) := by decide +kernel
theorem dX0_newClass_33 : decode cX0_newClass 33 = .ok (.iload_n 1, 1) := by decide +kernel
theorem dX0_newClass_34 : decode cX0_newClass 34 = .ok (.iaload, 1) := by decide +kernel
theorem dX0_newClass_35 : decode cX0_newClass 35 = .ok (.iconst 1, 1) := by decide +kernel
theorem dX0_newClass_36 : decode cX0_newClass 36 = .ok (.iload_n 2, 1) := by decide +kernel
theorem dX0_newClass_37 : decode cX0_newClass 37 = .ok (.ishl, 1) := by decide +kernel
theorem dX0_newClass_38 : decode cX0_newClass 38 = .ok (.ior, 1) := by decide +kernel
theorem dX0_newClass_39 : decode cX0_newClass 39 = .ok (.iastore, 1) := by decide +kernel
theorem dX0_newClass_40 : decode cX0_newClass 40 = .ok (.aload_n 0, 1) := by decide +kernel
theorem dX0_newClass_41 : decode cX0_newClass 41 = .ok (.dup, 1) := by decide +kernel
theorem dX0_newClass_42 : decode cX0_newClass 42 = .ok (.getfield 17, 3) := by decide +kernel
theorem dX0_newClass_45 : decode cX0_newClass 45 = .ok (.iconst 1, 1) := by decide +kernel
theorem dX0_newClass_46 : decode cX0_newClass 46 = .ok (.iadd, 1) := by decide +kernel
theorem dX0_newClass_47 : decode cX0_newClass 47 = .ok (.putfield 17, 3) := by decide +kernel
theorem dX0_newClass_50 : decode cX0_newClass 50 = .ok (.iload_n 2, 1) := by decide +kernel
theorem dX0_newClass_51 : decode cX0_newClass 51 = .ok (.ireturn, 1) := by decide +kernel
set_option maxRecDepth 20000 in
theorem ggX0_below_X0_isKind : GoodIn wsX0_below wsX0_isKind := goodIn_r _ [5, 6, 12, 13, 14, 15, 16, 17, 18, 19] (by decide +kernel) (by decide +kernel)
set_option maxRecDepth 20000 in
theorem gX0_below_X0_isKind : GoodIn wsX0_below (wsV RX0 45 RX0 yX0_isKind wsX0_isKind) := goodIn_app (goodIn_of _ (by decide +kernel)) ggX0_below_X0_isKind
set_option maxRecDepth 20000 in
theorem ggX0_below_X0_isBelow : GoodIn wsX0_below wsX0_isBelow := goodIn_r _ [10, 11, 12, 13, 14, 15, 16, 17, 18, 19] (by decide +kernel) (by decide +kernel)
set_option maxRecDepth 20000 in
theorem gX0_below_X0_isBelow : GoodIn wsX0_below (wsV RX0 48 RX0 yX0_isBelow wsX0_isBelow) := goodIn_app (goodIn_of _ (by decide +kernel)) ggX0_below_X0_isBelow
theorem dX0_below_0 : decode cX0_below 0 = .ok (.aload_n 0, 1) := by decide +kernel
theorem dX0_below_1 : decode cX0_below 1 = .ok (.iload_n 1, 1) := by decide +kernel
theorem dX0_below_2 : decode cX0_below 2 = .ok (.invokevirtual 45, 3) := by decide +kernel
theorem dX0_below_5 : decode cX0_below 5 = .ok (.ifCond .eq 24, 3) := by decide +kernel
theorem dX0_below_8 : decode cX0_below 8 = .ok (.aload_n 0, 1) := by decide +kernel
theorem dX0_below_9 : decode cX0_below 9 = .ok (.iload_n 2, 1) := by decide +kernel
theorem dX0_below_10 : decode cX0_below 10 = .ok (.invokevirtual 45, 3) := by decide +kernel
theorem dX0_below_13 : decode cX0_below 13 = .ok (.ifCond .eq 16, 3) := by decide +kernel
theorem dX0_below_16 : decode cX0_below 16 = .ok (.aload_n 0, 1) := by decide +kernel
theorem dX0_below_17 : decode cX0_below 17 = .ok (.iload_n 1, 1) := by decide +kernel
theorem dX0_below_18 : decode cX0_below 18 = .ok (.iload_n 2, 1) := by decide +kernel
theorem dX0_below_19 : decode cX0_below 19 = .ok (.invokevirtual 48, 3) := by decide +kernel
theorem dX0_below_22 : decode cX0_below 22 = .ok (.ifCond .eq 7, 3) := by decide +kernel
theorem dX0_below_25 : decode cX0_below 25 = .ok (.iconst 1, 1) := by decide +kernel
theorem dX0_below_26 : decode cX0_below 26 = .ok (.goto 4, 3) := by decide +kernel
theorem dX0_below_29 : decode cX0_below 29 = .ok (.iconst 0, 1) := by decide +kernel
theorem dX0_below_30 : decode cX0_below 30 = .ok (.ireturn, 1) := by decide +kernel
set_option maxRecDepth 20000 in
theorem ggX0_meet_X0_isKind : GoodIn wsX0_meet wsX0_isKind := goodIn_r _ [7, 2, 8, 9, 10, 11, 12, 13, 14, 15] (by decide +kernel) (by decide +kernel)
set_option maxRecDepth 20000 in
theorem gX0_meet_X0_isKind : GoodIn wsX0_meet (wsV RX0 45 RX0 yX0_isKind wsX0_isKind) := goodIn_app (goodIn_of _ (by decide +kernel)) ggX0_meet_X0_isKind
theorem dX0_meet_0 : decode cX0_meet 0 = .ok (.aload_n 0, 1) := by decide +kernel
theorem dX0_meet_1 : decode cX0_meet 1 = .ok (.iload_n 1, 1) := by decide +kernel
theorem dX0_meet_2 : decode cX0_meet 2 = .ok (.invokevirtual 45, 3) := by decide +kernel
theorem dX0_meet_5 : decode cX0_meet 5 = .ok (.ifCond .eq 11, 3) := by decide +kernel
theorem dX0_meet_8 : decode cX0_meet 8 = .ok (.aload_n 0, 1) := by decide +kernel
theorem dX0_meet_9 : decode cX0_meet 9 = .ok (.iload_n 2, 1) := by decide +kernel
theorem dX0_meet_10 : decode cX0_meet 10 = .ok (.invokevirtual 45, 3) := by decide +kernel
theorem dX0_meet_13 : decode cX0_meet 13 = .ok (.ifCond .ne 5, 3) := by decide +kernel
theorem dX0_meet_16 : decode cX0_meet 16 = .ok (.iconst (-1), 1) := by decide +kernel
theorem dX0_meet_17 : decode cX0_meet 17 = .ok (.ireturn, 1) := by decide +kernel
theorem dX0_meet_18 : decode cX0_meet 18 = .ok (.aload_n 0, 1) := by decide +kernel
theorem dX0_meet_19 : decode cX0_meet 19 = .ok (.getfield 9, 3) := by decide +kernel
theorem dX0_meet_22 : decode cX0_meet 22 = .ok (.iload_n 1, 1) := by decide +kernel
theorem dX0_meet_23 : decode cX0_meet 23 = .ok (.iaload, 1) := by decide +kernel
theorem dX0_meet_24 : decode cX0_meet 24 = .ok (.aload_n 0, 1) := by decide +kernel
theorem dX0_meet_25 : decode cX0_meet 25 = .ok (.getfield 9, 3) := by decide +kernel
theorem dX0_meet_28 : decode cX0_meet 28 = .ok (.iload_n 2, 1) := by decide +kernel
theorem dX0_meet_29 : decode cX0_meet 29 = .ok (.iaload, 1) := by decide +kernel
theorem dX0_meet_30 : decode cX0_meet 30 = .ok (.iand, 1) := by decide +kernel
theorem dX0_meet_31 : decode cX0_meet 31 = .ok (.istore_n 3, 1) := by decide +kernel
theorem dX0_meet_32 : decode cX0_meet 32 = .ok (.aload_n 0, 1) := by decide +kernel
theorem dX0_meet_33 : decode cX0_meet 33 = .ok (.getfield 17, 3) := by decide +kernel
theorem dX0_meet_36 : decode cX0_meet 36 = .ok (.iconst 1, 1) := by decide +kernel
theorem dX0_meet_37 : decode cX0_meet 37 = .ok (.isub, 1) := by decide +kernel
theorem dX0_meet_38 : decode cX0_meet 38 = .ok (.istore 4, 2) := by decide +kernel
theorem dX0_meet_40 : decode cX0_meet 40 = .ok (.iload 4, 2) := by decide +kernel
theorem dX0_meet_42 : decode cX0_meet 42 = .ok (.ifCond .lt 21, 3) := by decide +kernel
theorem dX0_meet_45 : decode cX0_meet 45 = .ok (.iload_n 3, 1) := by decide +kernel
theorem dX0_meet_46 : decode cX0_meet 46 = .ok (.iload 4, 2) := by decide +kernel
theorem dX0_meet_48 : decode cX0_meet 48 = .ok (.iushr, 1) := by decide +kernel
theorem dX0_meet_49 : decode cX0_meet 49 = .ok (.iconst 1, 1) := by decide +kernel
theorem dX0_meet_50 : decode cX0_meet 50 = .ok (.iand, 1) := by decide +kernel
theorem dX0_meet_51 : decode cX0_meet 51 = .ok (.ifCond .eq 6, 3) := by decide +kernel
theorem dX0_meet_54 : decode cX0_meet 54 = .ok (.iload 4, 2) := by decide +kernel
theorem dX0_meet_56 : decode cX0_meet 56 = .ok (.ireturn, 1) := by decide +kernel
theorem dX0_meet_57 : decode cX0_meet 57 = .ok (.iinc 4 (-1), 3) := by decide +kernel
theorem dX0_meet_60 : decode cX0_meet 60 = .ok (.goto (-20), 3) := by decide +kernel
theorem dX0_meet_63 : decode cX0_meet 63 = .ok (.iconst (-1), 1) := by decide +kernel
theorem dX0_meet_64 : decode cX0_meet 64 = .ok (.ireturn, 1) := by decide +kernel
set_option maxRecDepth 20000 in
theorem ggX0_may_X0_isKind : GoodIn wsX0_may wsX0_isKind := goodIn_r _ [5, 6, 31, 32, 33, 34, 35, 36, 37, 38] (by decide +kernel) (by decide +kernel)
set_option maxRecDepth 20000 in
theorem gX0_may_X0_isKind : GoodIn wsX0_may (wsV RX0 45 RX0 yX0_isKind wsX0_isKind) := goodIn_app (goodIn_of _ (by decide +kernel)) ggX0_may_X0_isKind
set_option maxRecDepth 20000 in
theorem ggX0_may_X0_mayPass : GoodIn wsX0_may wsX0_mayPass := goodIn_r _ [10, 11, 12, 4, 13, 14, 15, 16, 17, 18, 19, 20, 21, 22, 23, 24, 25, 26, 27, 28, 29, 30, 31, 32, 33, 34, 35, 36, 37, 38] (by decide +kernel) (by decide +kernel)
set_option maxRecDepth 20000 in
theorem gX0_may_X0_mayPass : GoodIn wsX0_may (wsV RX0 52 RX0 yX0_mayPass wsX0_mayPass) := goodIn_app (goodIn_of _ (by decide +kernel)) ggX0_may_X0_mayPass
theorem dX0_may_0 : decode cX0_may 0 = .ok (.aload_n 0, 1) := by decide +kernel
theorem dX0_may_1 : decode cX0_may 1 = .ok (.iload_n 1, 1) := by decide +kernel
theorem dX0_may_2 : decode cX0_may 2 = .ok (.invokevirtual 45, 3) := by decide +kernel
theorem dX0_may_5 : decode cX0_may 5 = .ok (.ifCond .eq 11, 3) := by decide +kernel
theorem dX0_may_8 : decode cX0_may 8 = .ok (.aload_n 0, 1) := by decide +kernel
theorem dX0_may_9 : decode cX0_may 9 = .ok (.iload_n 2, 1) := by decide +kernel
theorem dX0_may_10 : decode cX0_may 10 = .ok (.invokevirtual 45, 3) := by decide +kernel
theorem dX0_may_13 : decode cX0_may 13 = .ok (.ifCond .ne 5, 3) := by decide +kernel
theorem dX0_may_16 : decode cX0_may 16 = .ok (.iconst 0, 1) := by decide +kernel
theorem dX0_may_17 : decode cX0_may 17 = .ok (.ireturn, 1) := by decide +kernel
theorem dX0_may_18 : decode cX0_may 18 = .ok (.iload_n 1, 1) := by decide +kernel
theorem dX0_may_19 : decode cX0_may 19 = .ok (.ifCond .eq 7, 3) := by decide +kernel
theorem dX0_may_22 : decode cX0_may 22 = .ok (.iload_n 2, 1) := by decide +kernel
theorem dX0_may_23 : decode cX0_may 23 = .ok (.ifCond .ne 6, 3) := by decide +kernel
theorem dX0_may_26 : decode cX0_may 26 = .ok (.iload 4, 2) := by decide +kernel
theorem dX0_may_28 : decode cX0_may 28 = .ok (.ireturn, 1) := by decide +kernel
theorem dX0_may_29 : decode cX0_may 29 = .ok (.aload_n 0, 1) := by decide +kernel
theorem dX0_may_30 : decode cX0_may 30 = .ok (.iload_n 1, 1) := by decide +kernel
theorem dX0_may_31 : decode cX0_may 31 = .ok (.iload_n 2, 1) := by decide +kernel
theorem dX0_may_32 : decode cX0_may 32 = .ok (.iload_n 3, 1) := by decide +kernel
theorem dX0_may_33 : decode cX0_may 33 = .ok (.invokevirtual 52, 3) := by decide +kernel
theorem dX0_may_36 : decode cX0_may 36 = .ok (.ireturn, 1) := by decide +kernel
set_option maxRecDepth 20000 in
theorem ggX0_pass_X0_may : GoodIn wsX0_pass wsX0_may := goodIn_r _ [5, 6, 7, 8, 4, 9, 10, 11, 12, 13, 14, 15, 16, 17, 18, 19, 20, 21, 22, 23, 24, 25, 26, 27, 28, 29, 30, 31, 32, 33, 34, 67, 68, 69, 70, 71, 72, 73, 74] (by decide +kernel) (by decide +kernel)
set_option maxRecDepth 20000 in
theorem gX0_pass_X0_may : GoodIn wsX0_pass (wsV RX0 56 RX0 yX0_may wsX0_may) := goodIn_app (goodIn_of _ (by decide +kernel)) ggX0_pass_X0_may
set_option maxRecDepth 20000 in
theorem ggX0_pass_X0_isPlain : GoodIn wsX0_pass wsX0_isPlain := goodIn_r _ [17] (by decide +kernel) (by decide +kernel)
set_option maxRecDepth 20000 in
theorem gX0_pass_X0_isPlain : GoodIn wsX0_pass (va_wsS RX0 60 yX0_isPlain wsX0_isPlain) := goodIn_app (goodIn_of _ (by decide +kernel)) ggX0_pass_X0_isPlain
set_option maxRecDepth 20000 in
theorem ggX0_pass_X0_fits : GoodIn wsX0_pass wsX0_fits := goodIn_r _ [37, 38, 39, 4, 40] (by decide +kernel) (by decide +kernel)
set_option maxRecDepth 20000 in
theorem gX0_pass_X0_fits : GoodIn wsX0_pass (va_wsS RX0 63 yX0_fits wsX0_fits) := goodIn_app (goodIn_of _ (by decide +kernel)) ggX0_pass_X0_fits
set_option maxRecDepth 20000 in
theorem ggX0_pass_X0_passPlain : GoodIn wsX0_pass wsX0_passPlain := goodIn_r _ [44, 15, 16, 4, 17, 38, 39, 40, 45, 46, 47, 48, 49, 50, 67, 68, 69, 70, 71, 72, 73, 74] (by decide +kernel) (by decide +kernel)
set_option maxRecDepth 20000 in
theorem gX0_pass_X0_passPlain : GoodIn wsX0_pass (wsV RX0 67 RX0 yX0_passPlain wsX0_passPlain) := goodIn_app (goodIn_of _ (by decide +kernel)) ggX0_pass_X0_passPlain
set_option maxRecDepth 20000 in
theorem ggX0_pass_X0_passNull : GoodIn wsX0_pass wsX0_passNull := goodIn_r _ [54, 15, 16, 4, 17, 45, 46, 47, 48, 49, 50, 67, 68, 69, 70, 71, 72, 73, 74] (by decide +kernel) (by decide +kernel)
set_option maxRecDepth 20000 in
theorem gX0_pass_X0_passNull : GoodIn wsX0_pass (wsV RX0 71 RX0 yX0_passNull wsX0_passNull) := goodIn_app (goodIn_of _ (by decide +kernel)) ggX0_pass_X0_passNull
set_option maxRecDepth 20000 in
theorem ggX0_pass_X0_isObject : GoodIn wsX0_pass wsX0_isObject := goodIn_r _ [58, 6, 7, 8, 4, 9, 10, 26, 27, 28, 35, 36, 37, 38, 39, 40, 67, 68, 69, 70, 71, 72, 73, 74] (by decide +kernel) (by decide +kernel)
set_option maxRecDepth 20000 in
theorem gX0_pass_X0_isObject : GoodIn wsX0_pass (wsV RX0 75 RX0 yX0_isObject wsX0_isObject) := goodIn_app (goodIn_of _ (by decide +kernel)) ggX0_pass_X0_isObject
set_option maxRecDepth 20000 in
theorem ggX0_pass_X0_isBelow : GoodIn wsX0_pass wsX0_isBelow := goodIn_r _ [24, 25, 67, 68, 69, 70, 71, 72, 73, 74] (by decide +kernel) (by decide +kernel)
set_option maxRecDepth 20000 in
theorem gX0_pass_X0_isBelow : GoodIn wsX0_pass (wsV RX0 48 RX0 yX0_isBelow wsX0_isBelow) := goodIn_app (goodIn_of _ (by decide +kernel)) ggX0_pass_X0_isBelow
set_option maxRecDepth 20000 in
theorem ggX0_pass_X0_passAsPlain : GoodIn wsX0_pass wsX0_passAsPlain := goodIn_r _ [62, 26, 27, 4, 28, 18, 19, 20, 38, 39, 40, 45, 46, 47, 48, 49, 50, 67, 68, 69, 70, 71, 72, 73, 74] (by decide +kernel) (by decide +kernel)
set_option maxRecDepth 20000 in
theorem gX0_pass_X0_passAsPlain : GoodIn wsX0_pass (wsV RX0 78 RX0 yX0_passAsPlain wsX0_passAsPlain) := goodIn_app (goodIn_of _ (by decide +kernel)) ggX0_pass_X0_passAsPlain
set_option maxRecDepth 20000 in
theorem ggX0_pass_X0_passAsReference : GoodIn wsX0_pass wsX0_passAsReference := goodIn_r _ [66, 21, 22, 23, 4, 24, 25, 45, 46, 47, 48, 49, 50, 67, 68, 69, 70, 71, 72, 73, 74] (by decide +kernel) (by decide +kernel)
set_option maxRecDepth 20000 in
theorem gX0_pass_X0_passAsReference : GoodIn wsX0_pass (wsV RX0 82 RX0 yX0_passAsReference wsX0_passAsReference) := goodIn_app (goodIn_of _ (by decide +kernel)) ggX0_pass_X0_passAsReference
theorem dX0_pass_0 : decode cX0_pass 0 = .ok (.aload_n 0, 1) := by decide +kernel
theorem dX0_pass_1 : decode cX0_pass 1 = .ok (.iload_n 1, 1) := by decide +kernel
theorem dX0_pass_2 : decode cX0_pass 2 = .ok (.iload_n 2, 1) := by decide +kernel
theorem dX0_pass_3 : decode cX0_pass 3 = .ok (.iload_n 3, 1) := by decide +kernel
theorem dX0_pass_4 : decode cX0_pass 4 = .ok (.iconst 0, 1) := by decide +kernel
theorem dX0_pass_5 : decode cX0_pass 5 = .ok (.invokevirtual 56, 3) := by decide +kernel
theorem dX0_pass_8 : decode cX0_pass 8 = .ok (.ifCond .ne 5, 3) := by decide +kernel
theorem dX0_pass_11 : decode cX0_pass 11 = .ok (.iconst (-1), 1) := by decide +kernel
theorem dX0_pass_12 : decode cX0_pass 12 = .ok (.ireturn, 1) := by decide +kernel
theorem dX0_pass_13 : decode cX0_pass 13 = .ok (.iload_n 1, 1) := by decide +kernel
theorem dX0_pass_14 : decode cX0_pass 14 = .ok (.invokestatic 60, 3) := by decide +kernel
theorem dX0_pass_17 : decode cX0_pass 17 = .ok (.ifCond .eq 25, 3) := by decide +kernel
theorem dX0_pass_20 : decode cX0_pass 20 = .ok (.iload_n 1, 1) := by decide +kernel
theorem dX0_pass_21 : decode cX0_pass 21 = .ok (.lload 5, 2) := by decide +kernel
theorem dX0_pass_23 : decode cX0_pass 23 = .ok (.invokestatic 63, 3) := by decide +kernel
theorem dX0_pass_26 : decode cX0_pass 26 = .ok (.ifCond .eq 14, 3) := by decide +kernel
theorem dX0_pass_29 : decode cX0_pass 29 = .ok (.aload_n 0, 1) := by decide +kernel
theorem dX0_pass_30 : decode cX0_pass 30 = .ok (.iload_n 1, 1) := by decide +kernel
theorem dX0_pass_31 : decode cX0_pass 31 = .ok (.iload_n 2, 1) := by decide +kernel
theorem dX0_pass_32 : decode cX0_pass 32 = .ok (.lload 5, 2) := by decide +kernel
theorem dX0_pass_34 : decode cX0_pass 34 = .ok (.invokevirtual 67, 3) := by decide +kernel
theorem dX0_pass_37 : decode cX0_pass 37 = .ok (.goto 4, 3) := by decide +kernel
theorem dX0_pass_40 : decode cX0_pass 40 = .ok (.iconst (-1), 1) := by decide +kernel
theorem dX0_pass_41 : decode cX0_pass 41 = .ok (.ireturn, 1) := by decide +kernel
theorem dX0_pass_42 : decode cX0_pass 42 = .ok (.iload 4, 2) := by decide +kernel
theorem dX0_pass_44 : decode cX0_pass 44 = .ok (.ifCond .ne 10, 3) := by decide +kernel
theorem dX0_pass_47 : decode cX0_pass 47 = .ok (.aload_n 0, 1) := by decide +kernel
theorem dX0_pass_48 : decode cX0_pass 48 = .ok (.iload_n 2, 1) := by decide +kernel
theorem dX0_pass_49 : decode cX0_pass 49 = .ok (.iload_n 3, 1) := by decide +kernel
theorem dX0_pass_50 : decode cX0_pass 50 = .ok (.invokevirtual 71, 3) := by decide +kernel
theorem dX0_pass_53 : decode cX0_pass 53 = .ok (.ireturn, 1) := by decide +kernel
theorem dX0_pass_54 : decode cX0_pass 54 = .ok (.aload_n 0, 1) := by decide +kernel
theorem dX0_pass_55 : decode cX0_pass 55 = .ok (.iload 4, 2) := by decide +kernel
theorem dX0_pass_57 : decode cX0_pass 57 = .ok (.lload 5, 2) := by decide +kernel
theorem dX0_pass_59 : decode cX0_pass 59 = .ok (.invokevirtual 75, 3) := by decide +kernel
theorem dX0_pass_62 : decode cX0_pass 62 = .ok (.ifCond .eq 13, 3) := by decide +kernel
theorem dX0_pass_65 : decode cX0_pass 65 = .ok (.aload_n 0, 1) := by decide +kernel
theorem dX0_pass_66 : decode cX0_pass 66 = .ok (.iload 4, 2) := by decide +kernel
theorem dX0_pass_68 : decode cX0_pass 68 = .ok (.iload_n 1, 1) := by decide +kernel
theorem dX0_pass_69 : decode cX0_pass 69 = .ok (.invokevirtual 48, 3) := by decide +kernel
theorem dX0_pass_72 : decode cX0_pass 72 = .ok (.ifCond .ne 5, 3) := by decide +kernel
theorem dX0_pass_75 : decode cX0_pass 75 = .ok (.iconst (-1), 1) := by decide +kernel
theorem dX0_pass_76 : decode cX0_pass 76 = .ok (.ireturn, 1) := by decide +kernel
theorem dX0_pass_77 : decode cX0_pass 77 = .ok (.iload_n 2, 1) := by decide +kernel
theorem dX0_pass_78 : decode cX0_pass 78 = .ok (.invokestatic 60, 3) := by decide +kernel
theorem dX0_pass_81 : decode cX0_pass 81 = .ok (.ifCond .eq 16, 3) := by decide +kernel
theorem dX0_pass_84 : decode cX0_pass 84 = .ok (.aload_n 0, 1) := by decide +kernel
theorem dX0_pass_85 : decode cX0_pass 85 = .ok (.iload_n 2, 1) := by decide +kernel
theorem dX0_pass_86 : decode cX0_pass 86 = .ok (.iload_n 3, 1) := by decide +kernel
theorem dX0_pass_87 : decode cX0_pass 87 = .ok (.iload 4, 2) := by decide +kernel
theorem dX0_pass_89 : decode cX0_pass 89 = .ok (.lload 5, 2) := by decide +kernel
theorem dX0_pass_91 : decode cX0_pass 91 = .ok (.invokevirtual 78, 3) := by decide +kernel
theorem dX0_pass_94 : decode cX0_pass 94 = .ok (.goto 12, 3) := by decide +kernel
theorem dX0_pass_97 : decode cX0_pass 97 = .ok (.aload_n 0, 1) := by decide +kernel
theorem dX0_pass_98 : decode cX0_pass 98 = .ok (.iload_n 2, 1) := by decide +kernel
theorem dX0_pass_99 : decode cX0_pass 99 = .ok (.iload 4, 2) := by decide +kernel
theorem dX0_pass_101 : decode cX0_pass 101 = .ok (.lload 5, 2) := by decide +kernel
theorem dX0_pass_103 : decode cX0_pass 103 = .ok (.invokevirtual 82, 3) := by decide +kernel
theorem dX0_pass_106 : decode cX0_pass 106 = .ok (.ireturn, 1) := by decide +kernel
theorem dX0_kind_0 : decode cX0_kind 0 = .ok (.aload_n 0, 1) := by decide +kernel
theorem dX0_kind_1 : decode cX0_kind 1 = .ok (.getfield 34, 3) := by decide +kernel
theorem dX0_kind_4 : decode cX0_kind 4 = .ok (.ireturn, 1) := by decide +kernel
theorem dX0_number_0 : decode cX0_number 0 = .ok (.aload_n 0, 1) := by decide +kernel
theorem dX0_number_1 : decode cX0_number 1 = .ok (.getfield 37, 3) := by decide +kernel
theorem dX0_number_4 : decode cX0_number 4 = .ok (.lreturn, 1) := by decide +kernel
theorem dX0_put_0 : decode cX0_put 0 = .ok (.aload_n 0, 1) := by decide +kernel
theorem dX0_put_1 : decode cX0_put 1 = .ok (.getfield 24, 3) := by decide +kernel
theorem dX0_put_4 : decode cX0_put 4 = .ok (.bipush 20, 2) := by decide +kernel
theorem dX0_put_6 : decode cX0_put 6 = .ok (.if_icmp .lt 5, 3) := by decide +kernel
theorem dX0_put_9 : decode cX0_put 9 = .ok (.iconst 0, 1) := by decide +kernel
theorem dX0_put_10 : decode cX0_put 10 = .ok (.ireturn, 1) := by decide +kernel
theorem dX0_put_11 : decode cX0_put 11 = .ok (.aload_n 0, 1) := by decide +kernel
theorem dX0_put_12 : decode cX0_put 12 = .ok (.getfield 21, 3) := by decide +kernel
theorem dX0_put_15 : decode cX0_put 15 = .ok (.aload_n 0, 1) := by decide +kernel
theorem dX0_put_16 : decode cX0_put 16 = .ok (.getfield 24, 3) := by decide +kernel
theorem dX0_put_19 : decode cX0_put 19 = .ok (.iload_n 1, 1) := by decide +kernel
theorem dX0_put_20 : decode cX0_put 20 = .ok (.iastore, 1) := by decide +kernel
theorem dX0_put_21 : decode cX0_put 21 = .ok (.aload_n 0, 1) := by decide +kernel
theorem dX0_put_22 : decode cX0_put 22 = .ok (.dup, 1) := by decide +kernel
theorem dX0_put_23 : decode cX0_put 23 = .ok (.getfield 24, 3) := by decide +kernel
theorem dX0_put_26 : decode cX0_put 26 = .ok (.iconst 1, 1) := by decide +kernel
theorem dX0_put_27 : decode cX0_put 27 = .ok (.iadd, 1) := by decide +kernel
theorem dX0_put_28 : decode cX0_put 28 = .ok (.putfield 24, 3) := by decide +kernel
theorem dX0_put_31 : decode cX0_put 31 = .ok (.iconst 1, 1) := by decide +kernel
theorem dX0_put_32 : decode cX0_put 32 = .ok (.ireturn, 1) := by decide +kernel
set_option maxRecDepth 20000 in
theorem ggX0_type_X0_isKind : GoodIn wsX0_type wsX0_isKind := goodIn_r _ [7, 8, 26, 27, 28, 29, 30, 31, 32, 33] (by decide +kernel) (by decide +kernel)
set_option maxRecDepth 20000 in
theorem gX0_type_X0_isKind : GoodIn wsX0_type (wsV RX0 45 RX0 yX0_isKind wsX0_isKind) := goodIn_app (goodIn_of _ (by decide +kernel)) ggX0_type_X0_isKind
set_option maxRecDepth 20000 in
theorem ggX0_type_X0_withPlace : GoodIn wsX0_type wsX0_withPlace := goodIn_r _ [11, 12, 13, 14, 6, 15, 16, 17, 18, 19] (by decide +kernel) (by decide +kernel)
set_option maxRecDepth 20000 in
theorem gX0_type_X0_withPlace : GoodIn wsX0_type (va_wsS RX0 85 yX0_withPlace wsX0_withPlace) := goodIn_app (goodIn_of _ (by decide +kernel)) ggX0_type_X0_withPlace
set_option maxRecDepth 20000 in
theorem ggX0_type_X0_numberOf : GoodIn wsX0_type wsX0_numberOf := goodIn_r _ [23, 24, 25, 26, 27, 28, 29, 30, 31, 32, 33] (by decide +kernel) (by decide +kernel)
set_option maxRecDepth 20000 in
theorem gX0_type_X0_numberOf : GoodIn wsX0_type (wsV RX0 89 RX0 yX0_numberOf wsX0_numberOf) := goodIn_app (goodIn_of _ (by decide +kernel)) ggX0_type_X0_numberOf
theorem dX0_type_0 : decode cX0_type 0 = .ok (.aload_n 0, 1) := by decide +kernel
theorem dX0_type_1 : decode cX0_type 1 = .ok (.getfield 24, 3) := by decide +kernel
theorem dX0_type_4 : decode cX0_type 4 = .ok (.istore_n 2, 1) := by decide +kernel
theorem dX0_type_5 : decode cX0_type 5 = .ok (.aload_n 0, 1) := by decide +kernel
theorem dX0_type_6 : decode cX0_type 6 = .ok (.iconst 0, 1) := by decide +kernel
theorem dX0_type_7 : decode cX0_type 7 = .ok (.putfield 24, 3) := by decide +kernel
theorem dX0_type_10 : decode cX0_type 10 = .ok (.aload_n 0, 1) := by decide +kernel
theorem dX0_type_11 : decode cX0_type 11 = .ok (.iload_n 1, 1) := by decide +kernel
theorem dX0_type_12 : decode cX0_type 12 = .ok (.invokevirtual 45, 3) := by decide +kernel
theorem dX0_type_15 : decode cX0_type 15 = .ok (.ifCond .eq 9, 3) := by decide +kernel
theorem dX0_type_18 : decode cX0_type 18 = .ok (.iload_n 2, 1) := by decide +kernel
theorem dX0_type_19 : decode cX0_type 19 = .ok (.bipush 10, 2) := by decide +kernel
theorem dX0_type_21 : decode cX0_type 21 = .ok (.if_icmp .le 5, 3) := by decide +kernel
theorem dX0_type_24 : decode cX0_type 24 = .ok (.iconst (-1), 1) := by decide +kernel
theorem dX0_type_25 : decode cX0_type 25 = .ok (.ireturn, 1) := by decide +kernel
theorem dX0_type_26 : decode cX0_type 26 = .ok (.iload_n 1, 1) := by decide +kernel
theorem dX0_type_27 : decode cX0_type 27 = .ok (.i2l, 1) := by decide +kernel
theorem dX0_type_28 : decode cX0_type 28 = .ok (.lstore_n 3, 1) := by decide +kernel
theorem dX0_type_29 : decode cX0_type 29 = .ok (.iconst 0, 1) := by decide +kernel
theorem dX0_type_30 : decode cX0_type 30 = .ok (.istore 5, 2) := by decide +kernel
theorem dX0_type_32 : decode cX0_type 32 = .ok (.iload 5, 2) := by decide +kernel
theorem dX0_type_34 : decode cX0_type 34 = .ok (.iload_n 2, 1) := by decide +kernel
theorem dX0_type_35 : decode cX0_type 35 = .ok (.if_icmp .ge 47, 3) := by decide +kernel
theorem dX0_type_38 : decode cX0_type 38 = .ok (.aload_n 0, 1) := by decide +kernel
theorem dX0_type_39 : decode cX0_type 39 = .ok (.aload_n 0, 1) := by decide +kernel
theorem dX0_type_40 : decode cX0_type 40 = .ok (.getfield 21, 3) := by decide +kernel
theorem dX0_type_43 : decode cX0_type 43 = .ok (.iload 5, 2) := by decide +kernel
theorem dX0_type_45 : decode cX0_type 45 = .ok (.iaload, 1) := by decide +kernel
theorem dX0_type_46 : decode cX0_type 46 = .ok (.invokevirtual 45, 3) := by decide +kernel
theorem dX0_type_49 : decode cX0_type 49 = .ok (.ifCond .eq 13, 3) := by decide +kernel
theorem dX0_type_52 : decode cX0_type 52 = .ok (.aload_n 0, 1) := by decide +kernel
theorem dX0_type_53 : decode cX0_type 53 = .ok (.getfield 21, 3) := by decide +kernel
theorem dX0_type_56 : decode cX0_type 56 = .ok (.iload 5, 2) := by decide +kernel
theorem dX0_type_58 : decode cX0_type 58 = .ok (.iaload, 1) := by decide +kernel
theorem dX0_type_59 : decode cX0_type 59 = .ok (.ifCond .ne 5, 3) := by decide +kernel
theorem dX0_type_62 : decode cX0_type 62 = .ok (.iconst (-1), 1) := by decide +kernel
theorem dX0_type_63 : decode cX0_type 63 = .ok (.ireturn, 1) := by decide +kernel
theorem dX0_type_64 : decode cX0_type 64 = .ok (.lload_n 3, 1) := by decide +kernel
theorem dX0_type_65 : decode cX0_type 65 = .ok (.aload_n 0, 1) := by decide +kernel
theorem dX0_type_66 : decode cX0_type 66 = .ok (.getfield 21, 3) := by decide +kernel
theorem dX0_type_69 : decode cX0_type 69 = .ok (.iload 5, 2) := by decide +kernel
theorem dX0_type_71 : decode cX0_type 71 = .ok (.iaload, 1) := by decide +kernel
theorem dX0_type_72 : decode cX0_type 72 = .ok (.invokestatic 85, 3) := by decide +kernel
theorem dX0_type_75 : decode cX0_type 75 = .ok (.lstore_n 3, 1) := by decide +kernel
theorem dX0_type_76 : decode cX0_type 76 = .ok (.iinc 5 1, 3) := by decide +kernel
theorem dX0_type_79 : decode cX0_type 79 = .ok (.goto (-47), 3) := by decide +kernel
theorem dX0_type_82 : decode cX0_type 82 = .ok (.aload_n 0, 1) := by decide +kernel
theorem dX0_type_83 : decode cX0_type 83 = .ok (.lload_n 3, 1) := by decide +kernel
theorem dX0_type_84 : decode cX0_type 84 = .ok (.invokevirtual 89, 3) := by decide +kernel
theorem dX0_type_87 : decode cX0_type 87 = .ok (.ireturn, 1) := by decide +kernel
set_option maxRecDepth 20000 in
theorem ggX0_typeAbout_X0_isType : GoodIn wsX0_typeAbout wsX0_isType := goodIn_r _ [6, 7, 22, 23, 24, 25, 26, 27, 28, 29] (by decide +kernel) (by decide +kernel)
set_option maxRecDepth 20000 in
theorem gX0_typeAbout_X0_isType : GoodIn wsX0_typeAbout (wsV RX0 93 RX0 yX0_isType wsX0_isType) := goodIn_app (goodIn_of _ (by decide +kernel)) ggX0_typeAbout_X0_isType
set_option maxRecDepth 20000 in
theorem ggX0_typeAbout_X0_resultOf : GoodIn wsX0_typeAbout wsX0_resultOf := goodIn_r _ [10, 11] (by decide +kernel) (by decide +kernel)
set_option maxRecDepth 20000 in
theorem gX0_typeAbout_X0_resultOf : GoodIn wsX0_typeAbout (va_wsS RX0 96 yX0_resultOf wsX0_resultOf) := goodIn_app (goodIn_of _ (by decide +kernel)) ggX0_typeAbout_X0_resultOf
set_option maxRecDepth 20000 in
theorem ggX0_typeAbout_X0_placesOf : GoodIn wsX0_typeAbout wsX0_placesOf := goodIn_r _ [14, 15] (by decide +kernel) (by decide +kernel)
set_option maxRecDepth 20000 in
theorem gX0_typeAbout_X0_placesOf : GoodIn wsX0_typeAbout (va_wsS RX0 99 yX0_placesOf wsX0_placesOf) := goodIn_app (goodIn_of _ (by decide +kernel)) ggX0_typeAbout_X0_placesOf
set_option maxRecDepth 20000 in
theorem ggX0_typeAbout_X0_placeOf : GoodIn wsX0_typeAbout wsX0_placeOf := goodIn_r _ [18, 11, 19, 20, 5, 21] (by decide +kernel) (by decide +kernel)
set_option maxRecDepth 20000 in
theorem gX0_typeAbout_X0_placeOf : GoodIn wsX0_typeAbout (va_wsS RX0 102 yX0_placeOf wsX0_placeOf) := goodIn_app (goodIn_of _ (by decide +kernel)) ggX0_typeAbout_X0_placeOf
theorem dX0_typeAbout_0 : decode cX0_typeAbout 0 = .ok (.aload_n 0, 1) := by decide +kernel
theorem dX0_typeAbout_1 : decode cX0_typeAbout 1 = .ok (.iload_n 1, 1) := by decide +kernel
theorem dX0_typeAbout_2 : decode cX0_typeAbout 2 = .ok (.invokevirtual 93, 3) := by decide +kernel
theorem dX0_typeAbout_5 : decode cX0_typeAbout 5 = .ok (.ifCond .ne 5, 3) := by decide +kernel
theorem dX0_typeAbout_8 : decode cX0_typeAbout 8 = .ok (.iconst (-1), 1) := by decide +kernel
theorem dX0_typeAbout_9 : decode cX0_typeAbout 9 = .ok (.ireturn, 1) := by decide +kernel
theorem dX0_typeAbout_10 : decode cX0_typeAbout 10 = .ok (.aload_n 0, 1) := by decide +kernel
theorem dX0_typeAbout_11 : decode cX0_typeAbout 11 = .ok (.getfield 27, 3) := by decide +kernel
theorem dX0_typeAbout_14 : decode cX0_typeAbout 14 = .ok (.iload_n 1, 1) := by decide +kernel
theorem dX0_typeAbout_15 : decode cX0_typeAbout 15 = .ok (.laload, 1) := by decide +kernel
theorem dX0_typeAbout_16 : decode cX0_typeAbout 16 = .ok (.lstore_n 3, 1) := by decide +kernel
theorem dX0_typeAbout_17 : decode cX0_typeAbout 17 = .ok (.iload_n 2, 1) := by decide +kernel
theorem dX0_typeAbout_18 : decode cX0_typeAbout 18 = .ok (.iconst (-1), 1) := by decide +kernel
theorem dX0_typeAbout_19 : decode cX0_typeAbout 19 = .ok (.if_icmp .ne 8, 3) := by decide +kernel
theorem dX0_typeAbout_22 : decode cX0_typeAbout 22 = .ok (.lload_n 3, 1) := by decide +kernel
theorem dX0_typeAbout_23 : decode cX0_typeAbout 23 = .ok (.invokestatic 96, 3) := by decide +kernel
theorem dX0_typeAbout_26 : decode cX0_typeAbout 26 = .ok (.ireturn, 1) := by decide +kernel
theorem dX0_typeAbout_27 : decode cX0_typeAbout 27 = .ok (.iload_n 2, 1) := by decide +kernel
theorem dX0_typeAbout_28 : decode cX0_typeAbout 28 = .ok (.bipush (-2), 2) := by decide +kernel
theorem dX0_typeAbout_30 : decode cX0_typeAbout 30 = .ok (.if_icmp .ne 8, 3) := by decide +kernel
theorem dX0_typeAbout_33 : decode cX0_typeAbout 33 = .ok (.lload_n 3, 1) := by decide +kernel
theorem dX0_typeAbout_34 : decode cX0_typeAbout 34 = .ok (.invokestatic 99, 3) := by decide +kernel
theorem dX0_typeAbout_37 : decode cX0_typeAbout 37 = .ok (.ireturn, 1) := by decide +kernel
theorem dX0_typeAbout_38 : decode cX0_typeAbout 38 = .ok (.iload_n 2, 1) := by decide +kernel
theorem dX0_typeAbout_39 : decode cX0_typeAbout 39 = .ok (.ifCond .lt 19, 3) := by decide +kernel
theorem dX0_typeAbout_42 : decode cX0_typeAbout 42 = .ok (.iload_n 2, 1) := by decide +kernel
theorem dX0_typeAbout_43 : decode cX0_typeAbout 43 = .ok (.lload_n 3, 1) := by decide +kernel
theorem dX0_typeAbout_44 : decode cX0_typeAbout 44 = .ok (.invokestatic 99, 3) := by decide +kernel
theorem dX0_typeAbout_47 : decode cX0_typeAbout 47 = .ok (.if_icmp .ge 11, 3) := by decide +kernel
theorem dX0_typeAbout_50 : decode cX0_typeAbout 50 = .ok (.lload_n 3, 1) := by decide +kernel
theorem dX0_typeAbout_51 : decode cX0_typeAbout 51 = .ok (.iload_n 2, 1) := by decide +kernel
theorem dX0_typeAbout_52 : decode cX0_typeAbout 52 = .ok (.invokestatic 102, 3) := by decide +kernel
theorem dX0_typeAbout_55 : decode cX0_typeAbout 55 = .ok (.goto 4, 3) := by decide +kernel
theorem dX0_typeAbout_58 : decode cX0_typeAbout 58 = .ok (.iconst (-1), 1) := by decide +kernel
theorem dX0_typeAbout_59 : decode cX0_typeAbout 59 = .ok (.ireturn, 1) := by decide +kernel
set_option maxRecDepth 20000 in
theorem ggX0_mayBe_X0_isType : GoodIn wsX0_mayBe wsX0_isType := goodIn_r _ [6, 7, 55, 56, 57, 58, 59, 60, 61, 62] (by decide +kernel) (by decide +kernel)
set_option maxRecDepth 20000 in
theorem gX0_mayBe_X0_isType : GoodIn wsX0_mayBe (wsV RX0 93 RX0 yX0_isType wsX0_isType) := goodIn_app (goodIn_of _ (by decide +kernel)) ggX0_mayBe_X0_isType
set_option maxRecDepth 20000 in
theorem ggX0_mayBe_X0_placesOf : GoodIn wsX0_mayBe wsX0_placesOf := goodIn_r _ [10, 11] (by decide +kernel) (by decide +kernel)
set_option maxRecDepth 20000 in
theorem gX0_mayBe_X0_placesOf : GoodIn wsX0_mayBe (va_wsS RX0 99 yX0_placesOf wsX0_placesOf) := goodIn_app (goodIn_of _ (by decide +kernel)) ggX0_mayBe_X0_placesOf
set_option maxRecDepth 20000 in
theorem ggX0_mayBe_X0_resultOf : GoodIn wsX0_mayBe wsX0_resultOf := goodIn_r _ [14, 15] (by decide +kernel) (by decide +kernel)
set_option maxRecDepth 20000 in
theorem gX0_mayBe_X0_resultOf : GoodIn wsX0_mayBe (va_wsS RX0 96 yX0_resultOf wsX0_resultOf) := goodIn_app (goodIn_of _ (by decide +kernel)) ggX0_mayBe_X0_resultOf
set_option maxRecDepth 20000 in
theorem ggX0_mayBe_X0_may : GoodIn wsX0_mayBe wsX0_may := goodIn_r _ [19, 20, 21, 22, 5, 23, 24, 25, 26, 27, 28, 29, 30, 31, 32, 33, 34, 35, 36, 37, 38, 39, 40, 41, 42, 43, 44, 45, 46, 47, 48, 55, 56, 57, 58, 59, 60, 61, 62] (by decide +kernel) (by decide +kernel)
set_option maxRecDepth 20000 in
theorem gX0_mayBe_X0_may : GoodIn wsX0_mayBe (wsV RX0 56 RX0 yX0_may wsX0_may) := goodIn_app (goodIn_of _ (by decide +kernel)) ggX0_mayBe_X0_may
set_option maxRecDepth 20000 in
theorem ggX0_mayBe_X0_placeOf : GoodIn wsX0_mayBe wsX0_placeOf := goodIn_r _ [51, 15, 52, 53, 5, 54] (by decide +kernel) (by decide +kernel)
set_option maxRecDepth 20000 in
theorem gX0_mayBe_X0_placeOf : GoodIn wsX0_mayBe (va_wsS RX0 102 yX0_placeOf wsX0_placeOf) := goodIn_app (goodIn_of _ (by decide +kernel)) ggX0_mayBe_X0_placeOf
theorem dX0_mayBe_0 : decode cX0_mayBe 0 = .ok (.aload_n 0, 1) := by decide +kernel
theorem dX0_mayBe_1 : decode cX0_mayBe 1 = .ok (.iload_n 1, 1) := by decide +kernel
theorem dX0_mayBe_2 : decode cX0_mayBe 2 = .ok (.invokevirtual 93, 3) := by decide +kernel
theorem dX0_mayBe_5 : decode cX0_mayBe 5 = .ok (.ifCond .eq 11, 3) := by decide +kernel
theorem dX0_mayBe_8 : decode cX0_mayBe 8 = .ok (.aload_n 0, 1) := by decide +kernel
theorem dX0_mayBe_9 : decode cX0_mayBe 9 = .ok (.iload_n 2, 1) := by decide +kernel
theorem dX0_mayBe_10 : decode cX0_mayBe 10 = .ok (.invokevirtual 93, 3) := by decide +kernel
theorem dX0_mayBe_13 : decode cX0_mayBe 13 = .ok (.ifCond .ne 5, 3) := by decide +kernel
theorem dX0_mayBe_16 : decode cX0_mayBe 16 = .ok (.iconst 0, 1) := by decide +kernel
theorem dX0_mayBe_17 : decode cX0_mayBe 17 = .ok (.ireturn, 1) := by decide +kernel
theorem dX0_mayBe_18 : decode cX0_mayBe 18 = .ok (.aload_n 0, 1) := by decide +kernel
theorem dX0_mayBe_19 : decode cX0_mayBe 19 = .ok (.getfield 27, 3) := by decide +kernel
theorem dX0_mayBe_22 : decode cX0_mayBe 22 = .ok (.iload_n 1, 1) := by decide +kernel
theorem dX0_mayBe_23 : decode cX0_mayBe 23 = .ok (.laload, 1) := by decide +kernel
theorem dX0_mayBe_24 : decode cX0_mayBe 24 = .ok (.lstore 4, 2) := by decide +kernel
theorem dX0_mayBe_26 : decode cX0_mayBe 26 = .ok (.aload_n 0, 1) := by decide +kernel
theorem dX0_mayBe_27 : decode cX0_mayBe 27 = .ok (.getfield 27, 3) := by decide +kernel
theorem dX0_mayBe_30 : decode cX0_mayBe 30 = .ok (.iload_n 2, 1) := by decide +kernel
theorem dX0_mayBe_31 : decode cX0_mayBe 31 = .ok (.laload, 1) := by decide +kernel
theorem dX0_mayBe_32 : decode cX0_mayBe 32 = .ok (.lstore 6, 2) := by decide +kernel
theorem dX0_mayBe_34 : decode cX0_mayBe 34 = .ok (.lload 4, 2) := by decide +kernel
theorem dX0_mayBe_36 : decode cX0_mayBe 36 = .ok (.invokestatic 99, 3) := by decide +kernel
theorem dX0_mayBe_39 : decode cX0_mayBe 39 = .ok (.istore 8, 2) := by decide +kernel
theorem dX0_mayBe_41 : decode cX0_mayBe 41 = .ok (.iload 8, 2) := by decide +kernel
theorem dX0_mayBe_43 : decode cX0_mayBe 43 = .ok (.lload 6, 2) := by decide +kernel
theorem dX0_mayBe_45 : decode cX0_mayBe 45 = .ok (.invokestatic 99, 3) := by decide +kernel
theorem dX0_mayBe_48 : decode cX0_mayBe 48 = .ok (.if_icmp .ne 22, 3) := by decide +kernel
theorem dX0_mayBe_51 : decode cX0_mayBe 51 = .ok (.aload_n 0, 1) := by decide +kernel
theorem dX0_mayBe_52 : decode cX0_mayBe 52 = .ok (.lload 4, 2) := by decide +kernel
theorem dX0_mayBe_54 : decode cX0_mayBe 54 = .ok (.invokestatic 96, 3) := by decide +kernel
theorem dX0_mayBe_57 : decode cX0_mayBe 57 = .ok (.lload 6, 2) := by decide +kernel
theorem dX0_mayBe_59 : decode cX0_mayBe 59 = .ok (.invokestatic 96, 3) := by decide +kernel
theorem dX0_mayBe_62 : decode cX0_mayBe 62 = .ok (.iload_n 3, 1) := by decide +kernel
theorem dX0_mayBe_63 : decode cX0_mayBe 63 = .ok (.iconst 1, 1) := by decide +kernel
theorem dX0_mayBe_64 : decode cX0_mayBe 64 = .ok (.invokevirtual 56, 3) := by decide +kernel
theorem dX0_mayBe_67 : decode cX0_mayBe 67 = .ok (.ifCond .ne 5, 3) := by decide +kernel
theorem dX0_mayBe_70 : decode cX0_mayBe 70 = .ok (.iconst 0, 1) := by decide +kernel
theorem dX0_mayBe_71 : decode cX0_mayBe 71 = .ok (.ireturn, 1) := by decide +kernel
theorem dX0_mayBe_72 : decode cX0_mayBe 72 = .ok (.iconst 0, 1) := by decide +kernel
theorem dX0_mayBe_73 : decode cX0_mayBe 73 = .ok (.istore 9, 2) := by decide +kernel
theorem dX0_mayBe_75 : decode cX0_mayBe 75 = .ok (.iload 9, 2) := by decide +kernel
theorem dX0_mayBe_77 : decode cX0_mayBe 77 = .ok (.iload 8, 2) := by decide +kernel
theorem dX0_mayBe_79 : decode cX0_mayBe 79 = .ok (.if_icmp .ge 34, 3) := by decide +kernel
theorem dX0_mayBe_82 : decode cX0_mayBe 82 = .ok (.aload_n 0, 1) := by decide +kernel
theorem dX0_mayBe_83 : decode cX0_mayBe 83 = .ok (.lload 6, 2) := by decide +kernel
theorem dX0_mayBe_85 : decode cX0_mayBe 85 = .ok (.iload 9, 2) := by decide +kernel
theorem dX0_mayBe_87 : decode cX0_mayBe 87 = .ok (.invokestatic 102, 3) := by decide +kernel
theorem dX0_mayBe_90 : decode cX0_mayBe 90 = .ok (.lload 4, 2) := by decide +kernel
theorem dX0_mayBe_92 : decode cX0_mayBe 92 = .ok (.iload 9, 2) := by decide +kernel
theorem dX0_mayBe_94 : decode cX0_mayBe 94 = .ok (.invokestatic 102, 3) := by decide +kernel
theorem dX0_mayBe_97 : decode cX0_mayBe 97 = .ok (.iload_n 3, 1) := by decide +kernel
theorem dX0_mayBe_98 : decode cX0_mayBe 98 = .ok (.iconst 0, 1) := by decide +kernel
theorem dX0_mayBe_99 : decode cX0_mayBe 99 = .ok (.invokevirtual 56, 3) := by decide +kernel
theorem dX0_mayBe_102 : decode cX0_mayBe 102 = .ok (.ifCond .ne 5, 3) := by decide +kernel
theorem dX0_mayBe_105 : decode cX0_mayBe 105 = .ok (.iconst 0, 1) := by decide +kernel
theorem dX0_mayBe_106 : decode cX0_mayBe 106 = .ok (.ireturn, 1) := by decide +kernel
theorem dX0_mayBe_107 : decode cX0_mayBe 107 = .ok (.iinc 9 1, 3) := by decide +kernel
theorem dX0_mayBe_110 : decode cX0_mayBe 110 = .ok (.goto (-35), 3) := by decide +kernel
theorem dX0_mayBe_113 : decode cX0_mayBe 113 = .ok (.iconst 1, 1) := by decide +kernel
theorem dX0_mayBe_114 : decode cX0_mayBe 114 = .ok (.ireturn, 1) := by decide +kernel
set_option maxRecDepth 20000 in
theorem ggX0_changed_X0_isType : GoodIn wsX0_changed wsX0_isType := goodIn_r _ [6, 7, 33, 34, 35, 36, 37, 38, 39, 40] (by decide +kernel) (by decide +kernel)
set_option maxRecDepth 20000 in
theorem gX0_changed_X0_isType : GoodIn wsX0_changed (wsV RX0 93 RX0 yX0_isType wsX0_isType) := goodIn_app (goodIn_of _ (by decide +kernel)) ggX0_changed_X0_isType
set_option maxRecDepth 20000 in
theorem ggX0_changed_X0_placesOf : GoodIn wsX0_changed wsX0_placesOf := goodIn_r _ [10, 11] (by decide +kernel) (by decide +kernel)
set_option maxRecDepth 20000 in
theorem gX0_changed_X0_placesOf : GoodIn wsX0_changed (va_wsS RX0 99 yX0_placesOf wsX0_placesOf) := goodIn_app (goodIn_of _ (by decide +kernel)) ggX0_changed_X0_placesOf
set_option maxRecDepth 20000 in
theorem ggX0_changed_X0_resultOf : GoodIn wsX0_changed wsX0_resultOf := goodIn_r _ [14, 15] (by decide +kernel) (by decide +kernel)
set_option maxRecDepth 20000 in
theorem gX0_changed_X0_resultOf : GoodIn wsX0_changed (va_wsS RX0 96 yX0_resultOf wsX0_resultOf) := goodIn_app (goodIn_of _ (by decide +kernel)) ggX0_changed_X0_resultOf
set_option maxRecDepth 20000 in
theorem ggX0_changed_X0_withPlacesOf : GoodIn wsX0_changed wsX0_withPlacesOf := goodIn_r _ [18, 19, 20, 5, 21, 15, 22, 23, 24, 25, 26, 27, 28, 8, 9, 10, 11] (by decide +kernel) (by decide +kernel)
set_option maxRecDepth 20000 in
theorem gX0_changed_X0_withPlacesOf : GoodIn wsX0_changed (va_wsS RX0 106 yX0_withPlacesOf wsX0_withPlacesOf) := goodIn_app (goodIn_of _ (by decide +kernel)) ggX0_changed_X0_withPlacesOf
set_option maxRecDepth 20000 in
theorem ggX0_changed_X0_numberOf : GoodIn wsX0_changed wsX0_numberOf := goodIn_r _ [32, 7, 1, 33, 34, 35, 36, 37, 38, 39, 40] (by decide +kernel) (by decide +kernel)
set_option maxRecDepth 20000 in
theorem gX0_changed_X0_numberOf : GoodIn wsX0_changed (wsV RX0 89 RX0 yX0_numberOf wsX0_numberOf) := goodIn_app (goodIn_of _ (by decide +kernel)) ggX0_changed_X0_numberOf
theorem dX0_changed_0 : decode cX0_changed 0 = .ok (.aload_n 0, 1) := by decide +kernel
theorem dX0_changed_1 : decode cX0_changed 1 = .ok (.iload_n 1, 1) := by decide +kernel
theorem dX0_changed_2 : decode cX0_changed 2 = .ok (.invokevirtual 93, 3) := by decide +kernel
theorem dX0_changed_5 : decode cX0_changed 5 = .ok (.ifCond .eq 12, 3) := by decide +kernel
theorem dX0_changed_8 : decode cX0_changed 8 = .ok (.aload_n 0, 1) := by decide +kernel
theorem dX0_changed_9 : decode cX0_changed 9 = .ok (.iload 4, 2) := by decide +kernel
theorem dX0_changed_11 : decode cX0_changed 11 = .ok (.invokevirtual 93, 3) := by decide +kernel
theorem dX0_changed_14 : decode cX0_changed 14 = .ok (.ifCond .ne 5, 3) := by decide +kernel
theorem dX0_changed_17 : decode cX0_changed 17 = .ok (.iconst (-1), 1) := by decide +kernel
theorem dX0_changed_18 : decode cX0_changed 18 = .ok (.ireturn, 1) := by decide +kernel
theorem dX0_changed_19 : decode cX0_changed 19 = .ok (.aload_n 0, 1) := by decide +kernel
theorem dX0_changed_20 : decode cX0_changed 20 = .ok (.getfield 27, 3) := by decide +kernel
theorem dX0_changed_23 : decode cX0_changed 23 = .ok (.iload_n 1, 1) := by decide +kernel
theorem dX0_changed_24 : decode cX0_changed 24 = .ok (.laload, 1) := by decide +kernel
theorem dX0_changed_25 : decode cX0_changed 25 = .ok (.lstore 5, 2) := by decide +kernel
theorem dX0_changed_27 : decode cX0_changed 27 = .ok (.aload_n 0, 1) := by decide +kernel
theorem dX0_changed_28 : decode cX0_changed 28 = .ok (.getfield 27, 3) := by decide +kernel
theorem dX0_changed_31 : decode cX0_changed 31 = .ok (.iload 4, 2) := by decide +kernel
theorem dX0_changed_33 : decode cX0_changed 33 = .ok (.laload, 1) := by decide +kernel
theorem dX0_changed_34 : decode cX0_changed 34 = .ok (.lstore 7, 2) := by decide +kernel
theorem dX0_changed_36 : decode cX0_changed 36 = .ok (.lload 5, 2) := by decide +kernel
theorem dX0_changed_38 : decode cX0_changed 38 = .ok (.invokestatic 99, 3) := by decide +kernel
theorem dX0_changed_41 : decode cX0_changed 41 = .ok (.istore 9, 2) := by decide +kernel
theorem dX0_changed_43 : decode cX0_changed 43 = .ok (.iload_n 3, 1) := by decide +kernel
theorem dX0_changed_44 : decode cX0_changed 44 = .ok (.ifCond .lt 21, 3) := by decide +kernel
theorem dX0_changed_47 : decode cX0_changed 47 = .ok (.iload_n 3, 1) := by decide +kernel
theorem dX0_changed_48 : decode cX0_changed 48 = .ok (.iload 9, 2) := by decide +kernel
theorem dX0_changed_50 : decode cX0_changed 50 = .ok (.if_icmp .gt 15, 3) := by decide +kernel
theorem dX0_changed_53 : decode cX0_changed 53 = .ok (.iload_n 2, 1) := by decide +kernel
theorem dX0_changed_54 : decode cX0_changed 54 = .ok (.ifCond .lt 11, 3) := by decide +kernel
theorem dX0_changed_57 : decode cX0_changed 57 = .ok (.iload_n 2, 1) := by decide +kernel
theorem dX0_changed_58 : decode cX0_changed 58 = .ok (.iload 9, 2) := by decide +kernel
theorem dX0_changed_60 : decode cX0_changed 60 = .ok (.iload_n 3, 1) := by decide +kernel
theorem dX0_changed_61 : decode cX0_changed 61 = .ok (.isub, 1) := by decide +kernel
theorem dX0_changed_62 : decode cX0_changed 62 = .ok (.if_icmp .le 5, 3) := by decide +kernel
theorem dX0_changed_65 : decode cX0_changed 65 = .ok (.iconst (-1), 1) := by decide +kernel
theorem dX0_changed_66 : decode cX0_changed 66 = .ok (.ireturn, 1) := by decide +kernel
theorem dX0_changed_67 : decode cX0_changed 67 = .ok (.iload 9, 2) := by decide +kernel
theorem dX0_changed_69 : decode cX0_changed 69 = .ok (.iload_n 3, 1) := by decide +kernel
theorem dX0_changed_70 : decode cX0_changed 70 = .ok (.isub, 1) := by decide +kernel
theorem dX0_changed_71 : decode cX0_changed 71 = .ok (.lload 7, 2) := by decide +kernel
theorem dX0_changed_73 : decode cX0_changed 73 = .ok (.invokestatic 99, 3) := by decide +kernel
theorem dX0_changed_76 : decode cX0_changed 76 = .ok (.iadd, 1) := by decide +kernel
theorem dX0_changed_77 : decode cX0_changed 77 = .ok (.bipush 10, 2) := by decide +kernel
theorem dX0_changed_79 : decode cX0_changed 79 = .ok (.if_icmp .le 5, 3) := by decide +kernel
theorem dX0_changed_82 : decode cX0_changed 82 = .ok (.iconst (-1), 1) := by decide +kernel
theorem dX0_changed_83 : decode cX0_changed 83 = .ok (.ireturn, 1) := by decide +kernel
theorem dX0_changed_84 : decode cX0_changed 84 = .ok (.lload 5, 2) := by decide +kernel
theorem dX0_changed_86 : decode cX0_changed 86 = .ok (.invokestatic 96, 3) := by decide +kernel
theorem dX0_changed_89 : decode cX0_changed 89 = .ok (.i2l, 1) := by decide +kernel
theorem dX0_changed_90 : decode cX0_changed 90 = .ok (.lstore 10, 2) := by decide +kernel
theorem dX0_changed_92 : decode cX0_changed 92 = .ok (.lload 10, 2) := by decide +kernel
theorem dX0_changed_94 : decode cX0_changed 94 = .ok (.lload 5, 2) := by decide +kernel
theorem dX0_changed_96 : decode cX0_changed 96 = .ok (.iconst 0, 1) := by decide +kernel
theorem dX0_changed_97 : decode cX0_changed 97 = .ok (.iload_n 2, 1) := by decide +kernel
theorem dX0_changed_98 : decode cX0_changed 98 = .ok (.invokestatic 106, 3) := by decide +kernel
theorem dX0_changed_101 : decode cX0_changed 101 = .ok (.lstore 10, 2) := by decide +kernel
end
section
theorem dX0_changed_103 : decode cX0_changed 103 = .ok (.lload 10, 2) := by decide +kernel
theorem dX0_changed_105 : decode cX0_changed 105 = .ok (.lload 7, 2) := by decide +kernel
theorem dX0_changed_107 : decode cX0_changed 107 = .ok (.iconst 0, 1) := by decide +kernel
theorem dX0_changed_108 : decode cX0_changed 108 = .ok (.lload 7, 2) := by decide +kernel
theorem dX0_changed_110 : decode cX0_changed 110 = .ok (.invokestatic 99, 3) := by decide +kernel
theorem dX0_changed_113 : decode cX0_changed 113 = .ok (.invokestatic 106, 3) := by decide +kernel
theorem dX0_changed_116 : decode cX0_changed 116 = .ok (.lstore 10, 2) := by decide +kernel
theorem dX0_changed_118 : decode cX0_changed 118 = .ok (.lload 10, 2) := by decide +kernel
theorem dX0_changed_120 : decode cX0_changed 120 = .ok (.lload 5, 2) := by decide +kernel
theorem dX0_changed_122 : decode cX0_changed 122 = .ok (.iload_n 2, 1) := by decide +kernel
theorem dX0_changed_123 : decode cX0_changed 123 = .ok (.iload_n 3, 1) := by decide +kernel
theorem dX0_changed_124 : decode cX0_changed 124 = .ok (.iadd, 1) := by decide +kernel
theorem dX0_changed_125 : decode cX0_changed 125 = .ok (.iload 9, 2) := by decide +kernel
theorem dX0_changed_127 : decode cX0_changed 127 = .ok (.invokestatic 106, 3) := by decide +kernel
theorem dX0_changed_130 : decode cX0_changed 130 = .ok (.lstore 10, 2) := by decide +kernel
theorem dX0_changed_132 : decode cX0_changed 132 = .ok (.aload_n 0, 1) := by decide +kernel
theorem dX0_changed_133 : decode cX0_changed 133 = .ok (.lload 10, 2) := by decide +kernel
theorem dX0_changed_135 : decode cX0_changed 135 = .ok (.invokevirtual 89, 3) := by decide +kernel
theorem dX0_changed_138 : decode cX0_changed 138 = .ok (.ireturn, 1) := by decide +kernel
set_option maxRecDepth 20000 in
theorem ggX0_firstAbove_X0_isBox : GoodIn wsX0_firstAbove wsX0_isBox := goodIn_r _ [4] (by decide +kernel) (by decide +kernel)
set_option maxRecDepth 20000 in
theorem gX0_firstAbove_X0_isBox : GoodIn wsX0_firstAbove (va_wsS RX0 110 yX0_isBox wsX0_isBox) := goodIn_app (goodIn_of _ (by decide +kernel)) ggX0_firstAbove_X0_isBox
set_option maxRecDepth 20000 in
theorem ggX0_firstAbove_X0_isOfNumbers : GoodIn wsX0_firstAbove wsX0_isOfNumbers := goodIn_r _ [7] (by decide +kernel) (by decide +kernel)
set_option maxRecDepth 20000 in
theorem gX0_firstAbove_X0_isOfNumbers : GoodIn wsX0_firstAbove (va_wsS RX0 113 yX0_isOfNumbers wsX0_isOfNumbers) := goodIn_app (goodIn_of _ (by decide +kernel)) ggX0_firstAbove_X0_isOfNumbers
theorem dX0_firstAbove_0 : decode cX0_firstAbove 0 = .ok (.iconst 1, 1) := by decide +kernel
theorem dX0_firstAbove_1 : decode cX0_firstAbove 1 = .ok (.iload_n 0, 1) := by decide +kernel
theorem dX0_firstAbove_2 : decode cX0_firstAbove 2 = .ok (.ishl, 1) := by decide +kernel
theorem dX0_firstAbove_3 : decode cX0_firstAbove 3 = .ok (.istore_n 1, 1) := by decide +kernel
theorem dX0_firstAbove_4 : decode cX0_firstAbove 4 = .ok (.iload_n 0, 1) := by decide +kernel
theorem dX0_firstAbove_5 : decode cX0_firstAbove 5 = .ok (.bipush 7, 2) := by decide +kernel
theorem dX0_firstAbove_7 : decode cX0_firstAbove 7 = .ok (.if_icmp .le 9, 3) := by decide +kernel
theorem dX0_firstAbove_10 : decode cX0_firstAbove 10 = .ok (.iload_n 1, 1) := by decide +kernel
theorem dX0_firstAbove_11 : decode cX0_firstAbove 11 = .ok (.sipush 128, 3) := by decide +kernel
theorem dX0_firstAbove_14 : decode cX0_firstAbove 14 = .ok (.ior, 1) := by decide +kernel
theorem dX0_firstAbove_15 : decode cX0_firstAbove 15 = .ok (.istore_n 1, 1) := by decide +kernel
theorem dX0_firstAbove_16 : decode cX0_firstAbove 16 = .ok (.iload_n 0, 1) := by decide +kernel
theorem dX0_firstAbove_17 : decode cX0_firstAbove 17 = .ok (.invokestatic 110, 3) := by decide +kernel
theorem dX0_firstAbove_20 : decode cX0_firstAbove 20 = .ok (.ifCond .eq 19, 3) := by decide +kernel
theorem dX0_firstAbove_23 : decode cX0_firstAbove 23 = .ok (.iload_n 0, 1) := by decide +kernel
theorem dX0_firstAbove_24 : decode cX0_firstAbove 24 = .ok (.bipush 8, 2) := by decide +kernel
theorem dX0_firstAbove_26 : decode cX0_firstAbove 26 = .ok (.isub, 1) := by decide +kernel
theorem dX0_firstAbove_27 : decode cX0_firstAbove 27 = .ok (.invokestatic 113, 3) := by decide +kernel
theorem dX0_firstAbove_30 : decode cX0_firstAbove 30 = .ok (.ifCond .eq 9, 3) := by decide +kernel
theorem dX0_firstAbove_33 : decode cX0_firstAbove 33 = .ok (.iload_n 1, 1) := by decide +kernel
theorem dX0_firstAbove_34 : decode cX0_firstAbove 34 = .ok (.sipush 256, 3) := by decide +kernel
theorem dX0_firstAbove_37 : decode cX0_firstAbove 37 = .ok (.ior, 1) := by decide +kernel
theorem dX0_firstAbove_38 : decode cX0_firstAbove 38 = .ok (.istore_n 1, 1) := by decide +kernel
theorem dX0_firstAbove_39 : decode cX0_firstAbove 39 = .ok (.iload_n 1, 1) := by decide +kernel
theorem dX0_firstAbove_40 : decode cX0_firstAbove 40 = .ok (.ireturn, 1) := by decide +kernel
theorem dX0_isPlain_0 : decode cX0_isPlain 0 = .ok (.iload_n 0, 1) := by decide +kernel
theorem dX0_isPlain_1 : decode cX0_isPlain 1 = .ok (.iconst 1, 1) := by decide +kernel
theorem dX0_isPlain_2 : decode cX0_isPlain 2 = .ok (.if_icmp .lt 13, 3) := by decide +kernel
theorem dX0_isPlain_5 : decode cX0_isPlain 5 = .ok (.iload_n 0, 1) := by decide +kernel
theorem dX0_isPlain_6 : decode cX0_isPlain 6 = .ok (.bipush 6, 2) := by decide +kernel
theorem dX0_isPlain_8 : decode cX0_isPlain 8 = .ok (.if_icmp .gt 7, 3) := by decide +kernel
theorem dX0_isPlain_11 : decode cX0_isPlain 11 = .ok (.iconst 1, 1) := by decide +kernel
theorem dX0_isPlain_12 : decode cX0_isPlain 12 = .ok (.goto 4, 3) := by decide +kernel
theorem dX0_isPlain_15 : decode cX0_isPlain 15 = .ok (.iconst 0, 1) := by decide +kernel
theorem dX0_isPlain_16 : decode cX0_isPlain 16 = .ok (.ireturn, 1) := by decide +kernel
theorem dX0_isBox_0 : decode cX0_isBox 0 = .ok (.iload_n 0, 1) := by decide +kernel
theorem dX0_isBox_1 : decode cX0_isBox 1 = .ok (.bipush 9, 2) := by decide +kernel
theorem dX0_isBox_3 : decode cX0_isBox 3 = .ok (.if_icmp .lt 13, 3) := by decide +kernel
theorem dX0_isBox_6 : decode cX0_isBox 6 = .ok (.iload_n 0, 1) := by decide +kernel
theorem dX0_isBox_7 : decode cX0_isBox 7 = .ok (.bipush 14, 2) := by decide +kernel
theorem dX0_isBox_9 : decode cX0_isBox 9 = .ok (.if_icmp .gt 7, 3) := by decide +kernel
theorem dX0_isBox_12 : decode cX0_isBox 12 = .ok (.iconst 1, 1) := by decide +kernel
theorem dX0_isBox_13 : decode cX0_isBox 13 = .ok (.goto 4, 3) := by decide +kernel
theorem dX0_isBox_16 : decode cX0_isBox 16 = .ok (.iconst 0, 1) := by decide +kernel
theorem dX0_isBox_17 : decode cX0_isBox 17 = .ok (.ireturn, 1) := by decide +kernel
theorem dX0_isOfNumbers_0 : decode cX0_isOfNumbers 0 = .ok (.iload_n 0, 1) := by decide +kernel
theorem dX0_isOfNumbers_1 : decode cX0_isOfNumbers 1 = .ok (.iconst 2, 1) := by decide +kernel
theorem dX0_isOfNumbers_2 : decode cX0_isOfNumbers 2 = .ok (.if_icmp .eq 19, 3) := by decide +kernel
theorem dX0_isOfNumbers_5 : decode cX0_isOfNumbers 5 = .ok (.iload_n 0, 1) := by decide +kernel
theorem dX0_isOfNumbers_6 : decode cX0_isOfNumbers 6 = .ok (.iconst 3, 1) := by decide +kernel
theorem dX0_isOfNumbers_7 : decode cX0_isOfNumbers 7 = .ok (.if_icmp .eq 14, 3) := by decide +kernel
theorem dX0_isOfNumbers_10 : decode cX0_isOfNumbers 10 = .ok (.iload_n 0, 1) := by decide +kernel
theorem dX0_isOfNumbers_11 : decode cX0_isOfNumbers 11 = .ok (.iconst 5, 1) := by decide +kernel
theorem dX0_isOfNumbers_12 : decode cX0_isOfNumbers 12 = .ok (.if_icmp .eq 9, 3) := by decide +kernel
theorem dX0_isOfNumbers_15 : decode cX0_isOfNumbers 15 = .ok (.iload_n 0, 1) := by decide +kernel
theorem dX0_isOfNumbers_16 : decode cX0_isOfNumbers 16 = .ok (.bipush 6, 2) := by decide +kernel
theorem dX0_isOfNumbers_18 : decode cX0_isOfNumbers 18 = .ok (.if_icmp .ne 7, 3) := by decide +kernel
theorem dX0_isOfNumbers_21 : decode cX0_isOfNumbers 21 = .ok (.iconst 1, 1) := by decide +kernel
theorem dX0_isOfNumbers_22 : decode cX0_isOfNumbers 22 = .ok (.goto 4, 3) := by decide +kernel
theorem dX0_isOfNumbers_25 : decode cX0_isOfNumbers 25 = .ok (.iconst 0, 1) := by decide +kernel
theorem dX0_isOfNumbers_26 : decode cX0_isOfNumbers 26 = .ok (.ireturn, 1) := by decide +kernel
theorem dX0_isKind_0 : decode cX0_isKind 0 = .ok (.iload_n 1, 1) := by decide +kernel
theorem dX0_isKind_1 : decode cX0_isKind 1 = .ok (.ifCond .lt 15, 3) := by decide +kernel
theorem dX0_isKind_4 : decode cX0_isKind 4 = .ok (.iload_n 1, 1) := by decide +kernel
theorem dX0_isKind_5 : decode cX0_isKind 5 = .ok (.aload_n 0, 1) := by decide +kernel
theorem dX0_isKind_6 : decode cX0_isKind 6 = .ok (.getfield 17, 3) := by decide +kernel
theorem dX0_isKind_9 : decode cX0_isKind 9 = .ok (.if_icmp .ge 7, 3) := by decide +kernel
theorem dX0_isKind_12 : decode cX0_isKind 12 = .ok (.iconst 1, 1) := by decide +kernel
theorem dX0_isKind_13 : decode cX0_isKind 13 = .ok (.goto 4, 3) := by decide +kernel
theorem dX0_isKind_16 : decode cX0_isKind 16 = .ok (.iconst 0, 1) := by decide +kernel
theorem dX0_isKind_17 : decode cX0_isKind 17 = .ok (.ireturn, 1) := by decide +kernel
set_option maxRecDepth 20000 in
theorem ggX0_mayBeParent_X0_isKind : GoodIn wsX0_mayBeParent wsX0_isKind := goodIn_r _ [5, 6, 7, 8, 9, 10, 11, 12, 13, 14] (by decide +kernel) (by decide +kernel)
set_option maxRecDepth 20000 in
theorem gX0_mayBeParent_X0_isKind : GoodIn wsX0_mayBeParent (wsV RX0 45 RX0 yX0_isKind wsX0_isKind) := goodIn_app (goodIn_of _ (by decide +kernel)) ggX0_mayBeParent_X0_isKind
theorem dX0_mayBeParent_0 : decode cX0_mayBeParent 0 = .ok (.aload_n 0, 1) := by decide +kernel
theorem dX0_mayBeParent_1 : decode cX0_mayBeParent 1 = .ok (.iload_n 1, 1) := by decide +kernel
theorem dX0_mayBeParent_2 : decode cX0_mayBeParent 2 = .ok (.invokevirtual 45, 3) := by decide +kernel
theorem dX0_mayBeParent_5 : decode cX0_mayBeParent 5 = .ok (.ifCond .eq 25, 3) := by decide +kernel
theorem dX0_mayBeParent_8 : decode cX0_mayBeParent 8 = .ok (.iload_n 1, 1) := by decide +kernel
theorem dX0_mayBeParent_9 : decode cX0_mayBeParent 9 = .ok (.bipush 7, 2) := by decide +kernel
theorem dX0_mayBeParent_11 : decode cX0_mayBeParent 11 = .ok (.if_icmp .eq 15, 3) := by decide +kernel
theorem dX0_mayBeParent_14 : decode cX0_mayBeParent 14 = .ok (.iload_n 1, 1) := by decide +kernel
theorem dX0_mayBeParent_15 : decode cX0_mayBeParent 15 = .ok (.bipush 19, 2) := by decide +kernel
theorem dX0_mayBeParent_17 : decode cX0_mayBeParent 17 = .ok (.if_icmp .eq 9, 3) := by decide +kernel
theorem dX0_mayBeParent_20 : decode cX0_mayBeParent 20 = .ok (.iload_n 1, 1) := by decide +kernel
theorem dX0_mayBeParent_21 : decode cX0_mayBeParent 21 = .ok (.bipush 20, 2) := by decide +kernel
theorem dX0_mayBeParent_23 : decode cX0_mayBeParent 23 = .ok (.if_icmp .lt 7, 3) := by decide +kernel
theorem dX0_mayBeParent_26 : decode cX0_mayBeParent 26 = .ok (.iconst 1, 1) := by decide +kernel
theorem dX0_mayBeParent_27 : decode cX0_mayBeParent 27 = .ok (.goto 4, 3) := by decide +kernel
theorem dX0_mayBeParent_30 : decode cX0_mayBeParent 30 = .ok (.iconst 0, 1) := by decide +kernel
theorem dX0_mayBeParent_31 : decode cX0_mayBeParent 31 = .ok (.ireturn, 1) := by decide +kernel
theorem dX0_isBelow_0 : decode cX0_isBelow 0 = .ok (.aload_n 0, 1) := by decide +kernel
theorem dX0_isBelow_1 : decode cX0_isBelow 1 = .ok (.getfield 9, 3) := by decide +kernel
theorem dX0_isBelow_4 : decode cX0_isBelow 4 = .ok (.iload_n 1, 1) := by decide +kernel
theorem dX0_isBelow_5 : decode cX0_isBelow 5 = .ok (.iaload, 1) := by decide +kernel
theorem dX0_isBelow_6 : decode cX0_isBelow 6 = .ok (.iload_n 2, 1) := by decide +kernel
theorem dX0_isBelow_7 : decode cX0_isBelow 7 = .ok (.iushr, 1) := by decide +kernel
theorem dX0_isBelow_8 : decode cX0_isBelow 8 = .ok (.iconst 1, 1) := by decide +kernel
theorem dX0_isBelow_9 : decode cX0_isBelow 9 = .ok (.iand, 1) := by decide +kernel
theorem dX0_isBelow_10 : decode cX0_isBelow 10 = .ok (.ifCond .eq 7, 3) := by decide +kernel
theorem dX0_isBelow_13 : decode cX0_isBelow 13 = .ok (.iconst 1, 1) := by decide +kernel
theorem dX0_isBelow_14 : decode cX0_isBelow 14 = .ok (.goto 4, 3) := by decide +kernel
theorem dX0_isBelow_17 : decode cX0_isBelow 17 = .ok (.iconst 0, 1) := by decide +kernel
theorem dX0_isBelow_18 : decode cX0_isBelow 18 = .ok (.ireturn, 1) := by decide +kernel
set_option maxRecDepth 20000 in
theorem ggX0_isObject_X0_isKind : GoodIn wsX0_isObject wsX0_isKind := goodIn_r _ [5, 6, 16, 17, 18, 19, 20, 21, 22, 23] (by decide +kernel) (by decide +kernel)
set_option maxRecDepth 20000 in
theorem gX0_isObject_X0_isKind : GoodIn wsX0_isObject (wsV RX0 45 RX0 yX0_isKind wsX0_isKind) := goodIn_app (goodIn_of _ (by decide +kernel)) ggX0_isObject_X0_isKind
set_option maxRecDepth 20000 in
theorem ggX0_isObject_X0_isBox : GoodIn wsX0_isObject wsX0_isBox := goodIn_r _ [9] (by decide +kernel) (by decide +kernel)
set_option maxRecDepth 20000 in
theorem gX0_isObject_X0_isBox : GoodIn wsX0_isObject (va_wsS RX0 110 yX0_isBox wsX0_isBox) := goodIn_app (goodIn_of _ (by decide +kernel)) ggX0_isObject_X0_isBox
set_option maxRecDepth 20000 in
theorem ggX0_isObject_X0_fits : GoodIn wsX0_isObject wsX0_fits := goodIn_r _ [12, 13, 14, 4, 15] (by decide +kernel) (by decide +kernel)
set_option maxRecDepth 20000 in
theorem gX0_isObject_X0_fits : GoodIn wsX0_isObject (va_wsS RX0 63 yX0_fits wsX0_fits) := goodIn_app (goodIn_of _ (by decide +kernel)) ggX0_isObject_X0_fits
theorem dX0_isObject_0 : decode cX0_isObject 0 = .ok (.aload_n 0, 1) := by decide +kernel
theorem dX0_isObject_1 : decode cX0_isObject 1 = .ok (.iload_n 1, 1) := by decide +kernel
theorem dX0_isObject_2 : decode cX0_isObject 2 = .ok (.invokevirtual 45, 3) := by decide +kernel
theorem dX0_isObject_5 : decode cX0_isObject 5 = .ok (.ifCond .eq 9, 3) := by decide +kernel
theorem dX0_isObject_8 : decode cX0_isObject 8 = .ok (.iload_n 1, 1) := by decide +kernel
theorem dX0_isObject_9 : decode cX0_isObject 9 = .ok (.bipush 8, 2) := by decide +kernel
theorem dX0_isObject_11 : decode cX0_isObject 11 = .ok (.if_icmp .gt 5, 3) := by decide +kernel
theorem dX0_isObject_14 : decode cX0_isObject 14 = .ok (.iconst 0, 1) := by decide +kernel
theorem dX0_isObject_15 : decode cX0_isObject 15 = .ok (.ireturn, 1) := by decide +kernel
theorem dX0_isObject_16 : decode cX0_isObject 16 = .ok (.iload_n 1, 1) := by decide +kernel
theorem dX0_isObject_17 : decode cX0_isObject 17 = .ok (.invokestatic 110, 3) := by decide +kernel
theorem dX0_isObject_20 : decode cX0_isObject 20 = .ok (.ifCond .eq 14, 3) := by decide +kernel
theorem dX0_isObject_23 : decode cX0_isObject 23 = .ok (.iload_n 1, 1) := by decide +kernel
theorem dX0_isObject_24 : decode cX0_isObject 24 = .ok (.bipush 8, 2) := by decide +kernel
theorem dX0_isObject_26 : decode cX0_isObject 26 = .ok (.isub, 1) := by decide +kernel
theorem dX0_isObject_27 : decode cX0_isObject 27 = .ok (.lload_n 2, 1) := by decide +kernel
theorem dX0_isObject_28 : decode cX0_isObject 28 = .ok (.invokestatic 63, 3) := by decide +kernel
theorem dX0_isObject_31 : decode cX0_isObject 31 = .ok (.ifCond .eq 7, 3) := by decide +kernel
theorem dX0_isObject_34 : decode cX0_isObject 34 = .ok (.iconst 1, 1) := by decide +kernel
theorem dX0_isObject_35 : decode cX0_isObject 35 = .ok (.goto 4, 3) := by decide +kernel
theorem dX0_isObject_38 : decode cX0_isObject 38 = .ok (.iconst 0, 1) := by decide +kernel
theorem dX0_isObject_39 : decode cX0_isObject 39 = .ok (.ireturn, 1) := by decide +kernel
set_option maxRecDepth 20000 in
theorem ggX0_mayPass_X0_isPlain : GoodIn wsX0_mayPass wsX0_isPlain := goodIn_r _ [4] (by decide +kernel) (by decide +kernel)
set_option maxRecDepth 20000 in
theorem gX0_mayPass_X0_isPlain : GoodIn wsX0_mayPass (va_wsS RX0 60 yX0_isPlain wsX0_isPlain) := goodIn_app (goodIn_of _ (by decide +kernel)) ggX0_mayPass_X0_isPlain
set_option maxRecDepth 20000 in
theorem ggX0_mayPass_X0_mayWiden : GoodIn wsX0_mayPass wsX0_mayWiden := goodIn_r _ [7] (by decide +kernel) (by decide +kernel)
set_option maxRecDepth 20000 in
theorem gX0_mayPass_X0_mayWiden : GoodIn wsX0_mayPass (va_wsS RX0 116 yX0_mayWiden wsX0_mayWiden) := goodIn_app (goodIn_of _ (by decide +kernel)) ggX0_mayPass_X0_mayWiden
set_option maxRecDepth 20000 in
theorem ggX0_mayPass_X0_isBelow : GoodIn wsX0_mayPass wsX0_isBelow := goodIn_r _ [11, 12, 22, 23, 24, 25, 26, 27, 28, 29] (by decide +kernel) (by decide +kernel)
set_option maxRecDepth 20000 in
theorem gX0_mayPass_X0_isBelow : GoodIn wsX0_mayPass (wsV RX0 48 RX0 yX0_isBelow wsX0_isBelow) := goodIn_app (goodIn_of _ (by decide +kernel)) ggX0_mayPass_X0_isBelow
set_option maxRecDepth 20000 in
theorem ggX0_mayPass_X0_isBox : GoodIn wsX0_mayPass wsX0_isBox := goodIn_r _ [15] (by decide +kernel) (by decide +kernel)
set_option maxRecDepth 20000 in
theorem gX0_mayPass_X0_isBox : GoodIn wsX0_mayPass (va_wsS RX0 110 yX0_isBox wsX0_isBox) := goodIn_app (goodIn_of _ (by decide +kernel)) ggX0_mayPass_X0_isBox
set_option maxRecDepth 20000 in
theorem ggX0_mayPass_X0_mayUnbox : GoodIn wsX0_mayPass wsX0_mayUnbox := goodIn_r _ [18, 19, 20, 3, 21, 13, 14, 15, 5, 6, 7] (by decide +kernel) (by decide +kernel)
set_option maxRecDepth 20000 in
theorem gX0_mayPass_X0_mayUnbox : GoodIn wsX0_mayPass (va_wsS RX0 119 yX0_mayUnbox wsX0_mayUnbox) := goodIn_app (goodIn_of _ (by decide +kernel)) ggX0_mayPass_X0_mayUnbox
theorem dX0_mayPass_0 : decode cX0_mayPass 0 = .ok (.iload_n 1, 1) := by decide +kernel
theorem dX0_mayPass_1 : decode cX0_mayPass 1 = .ok (.invokestatic 60, 3) := by decide +kernel
theorem dX0_mayPass_4 : decode cX0_mayPass 4 = .ok (.ifCond .eq 40, 3) := by decide +kernel
theorem dX0_mayPass_7 : decode cX0_mayPass 7 = .ok (.iload_n 2, 1) := by decide +kernel
theorem dX0_mayPass_8 : decode cX0_mayPass 8 = .ok (.invokestatic 60, 3) := by decide +kernel
theorem dX0_mayPass_11 : decode cX0_mayPass 11 = .ok (.ifCond .eq 23, 3) := by decide +kernel
theorem dX0_mayPass_14 : decode cX0_mayPass 14 = .ok (.iload_n 3, 1) := by decide +kernel
theorem dX0_mayPass_15 : decode cX0_mayPass 15 = .ok (.ifCond .ne 11, 3) := by decide +kernel
theorem dX0_mayPass_18 : decode cX0_mayPass 18 = .ok (.iload_n 1, 1) := by decide +kernel
theorem dX0_mayPass_19 : decode cX0_mayPass 19 = .ok (.iload_n 2, 1) := by decide +kernel
theorem dX0_mayPass_20 : decode cX0_mayPass 20 = .ok (.invokestatic 116, 3) := by decide +kernel
theorem dX0_mayPass_23 : decode cX0_mayPass 23 = .ok (.ifCond .eq 7, 3) := by decide +kernel
theorem dX0_mayPass_26 : decode cX0_mayPass 26 = .ok (.iconst 1, 1) := by decide +kernel
theorem dX0_mayPass_27 : decode cX0_mayPass 27 = .ok (.goto 16, 3) := by decide +kernel
theorem dX0_mayPass_30 : decode cX0_mayPass 30 = .ok (.iconst 0, 1) := by decide +kernel
theorem dX0_mayPass_31 : decode cX0_mayPass 31 = .ok (.goto 12, 3) := by decide +kernel
theorem dX0_mayPass_34 : decode cX0_mayPass 34 = .ok (.aload_n 0, 1) := by decide +kernel
theorem dX0_mayPass_35 : decode cX0_mayPass 35 = .ok (.iload_n 1, 1) := by decide +kernel
theorem dX0_mayPass_36 : decode cX0_mayPass 36 = .ok (.bipush 8, 2) := by decide +kernel
theorem dX0_mayPass_38 : decode cX0_mayPass 38 = .ok (.iadd, 1) := by decide +kernel
theorem dX0_mayPass_39 : decode cX0_mayPass 39 = .ok (.iload_n 2, 1) := by decide +kernel
theorem dX0_mayPass_40 : decode cX0_mayPass 40 = .ok (.invokevirtual 48, 3) := by decide +kernel
theorem dX0_mayPass_43 : decode cX0_mayPass 43 = .ok (.ireturn, 1) := by decide +kernel
theorem dX0_mayPass_44 : decode cX0_mayPass 44 = .ok (.iload_n 2, 1) := by decide +kernel
theorem dX0_mayPass_45 : decode cX0_mayPass 45 = .ok (.invokestatic 60, 3) := by decide +kernel
theorem dX0_mayPass_48 : decode cX0_mayPass 48 = .ok (.ifCond .ne 5, 3) := by decide +kernel
theorem dX0_mayPass_51 : decode cX0_mayPass 51 = .ok (.iconst 1, 1) := by decide +kernel
theorem dX0_mayPass_52 : decode cX0_mayPass 52 = .ok (.ireturn, 1) := by decide +kernel
theorem dX0_mayPass_53 : decode cX0_mayPass 53 = .ok (.iload_n 3, 1) := by decide +kernel
theorem dX0_mayPass_54 : decode cX0_mayPass 54 = .ok (.ifCond .eq 30, 3) := by decide +kernel
theorem dX0_mayPass_57 : decode cX0_mayPass 57 = .ok (.iload_n 1, 1) := by decide +kernel
theorem dX0_mayPass_58 : decode cX0_mayPass 58 = .ok (.bipush 7, 2) := by decide +kernel
theorem dX0_mayPass_60 : decode cX0_mayPass 60 = .ok (.if_icmp .eq 16, 3) := by decide +kernel
theorem dX0_mayPass_63 : decode cX0_mayPass 63 = .ok (.iload_n 1, 1) := by decide +kernel
theorem dX0_mayPass_64 : decode cX0_mayPass 64 = .ok (.bipush 8, 2) := by decide +kernel
theorem dX0_mayPass_66 : decode cX0_mayPass 66 = .ok (.if_icmp .eq 10, 3) := by decide +kernel
theorem dX0_mayPass_69 : decode cX0_mayPass 69 = .ok (.iload_n 1, 1) := by decide +kernel
theorem dX0_mayPass_70 : decode cX0_mayPass 70 = .ok (.invokestatic 110, 3) := by decide +kernel
theorem dX0_mayPass_73 : decode cX0_mayPass 73 = .ok (.ifCond .eq 7, 3) := by decide +kernel
theorem dX0_mayPass_76 : decode cX0_mayPass 76 = .ok (.iconst 1, 1) := by decide +kernel
theorem dX0_mayPass_77 : decode cX0_mayPass 77 = .ok (.goto 12, 3) := by decide +kernel
theorem dX0_mayPass_80 : decode cX0_mayPass 80 = .ok (.iconst 0, 1) := by decide +kernel
theorem dX0_mayPass_81 : decode cX0_mayPass 81 = .ok (.goto 8, 3) := by decide +kernel
theorem dX0_mayPass_84 : decode cX0_mayPass 84 = .ok (.iload_n 1, 1) := by decide +kernel
theorem dX0_mayPass_85 : decode cX0_mayPass 85 = .ok (.iload_n 2, 1) := by decide +kernel
theorem dX0_mayPass_86 : decode cX0_mayPass 86 = .ok (.invokestatic 119, 3) := by decide +kernel
theorem dX0_mayPass_89 : decode cX0_mayPass 89 = .ok (.ireturn, 1) := by decide +kernel
theorem dX0_mayWiden_0 : decode cX0_mayWiden 0 = .ok (.iload_n 0, 1) := by decide +kernel
theorem dX0_mayWiden_1 : decode cX0_mayWiden 1 = .ok (.iload_n 1, 1) := by decide +kernel
theorem dX0_mayWiden_2 : decode cX0_mayWiden 2 = .ok (.if_icmp .ne 5, 3) := by decide +kernel
theorem dX0_mayWiden_5 : decode cX0_mayWiden 5 = .ok (.iconst 1, 1) := by decide +kernel
theorem dX0_mayWiden_6 : decode cX0_mayWiden 6 = .ok (.ireturn, 1) := by decide +kernel
theorem dX0_mayWiden_7 : decode cX0_mayWiden 7 = .ok (.iload_n 0, 1) := by decide +kernel
theorem dX0_mayWiden_8 : decode cX0_mayWiden 8 = .ok (.tableswitch 83 2 5 #[32, 54, 54, 71], 32) := by decide +kernel
theorem dX0_mayWiden_40 : decode cX0_mayWiden 40 = .ok (.iload_n 1, 1) := by decide +kernel
theorem dX0_mayWiden_41 : decode cX0_mayWiden 41 = .ok (.iconst 3, 1) := by decide +kernel
theorem dX0_mayWiden_42 : decode cX0_mayWiden 42 = .ok (.if_icmp .eq 14, 3) := by decide +kernel
theorem dX0_mayWiden_45 : decode cX0_mayWiden 45 = .ok (.iload_n 1, 1) := by decide +kernel
theorem dX0_mayWiden_46 : decode cX0_mayWiden 46 = .ok (.iconst 5, 1) := by decide +kernel
theorem dX0_mayWiden_47 : decode cX0_mayWiden 47 = .ok (.if_icmp .eq 9, 3) := by decide +kernel
theorem dX0_mayWiden_50 : decode cX0_mayWiden 50 = .ok (.iload_n 1, 1) := by decide +kernel
theorem dX0_mayWiden_51 : decode cX0_mayWiden 51 = .ok (.bipush 6, 2) := by decide +kernel
theorem dX0_mayWiden_53 : decode cX0_mayWiden 53 = .ok (.if_icmp .ne 7, 3) := by decide +kernel
theorem dX0_mayWiden_56 : decode cX0_mayWiden 56 = .ok (.iconst 1, 1) := by decide +kernel
theorem dX0_mayWiden_57 : decode cX0_mayWiden 57 = .ok (.goto 4, 3) := by decide +kernel
theorem dX0_mayWiden_60 : decode cX0_mayWiden 60 = .ok (.iconst 0, 1) := by decide +kernel
theorem dX0_mayWiden_61 : decode cX0_mayWiden 61 = .ok (.ireturn, 1) := by decide +kernel
theorem dX0_mayWiden_62 : decode cX0_mayWiden 62 = .ok (.iload_n 1, 1) := by decide +kernel
theorem dX0_mayWiden_63 : decode cX0_mayWiden 63 = .ok (.iconst 5, 1) := by decide +kernel
theorem dX0_mayWiden_64 : decode cX0_mayWiden 64 = .ok (.if_icmp .eq 9, 3) := by decide +kernel
theorem dX0_mayWiden_67 : decode cX0_mayWiden 67 = .ok (.iload_n 1, 1) := by decide +kernel
theorem dX0_mayWiden_68 : decode cX0_mayWiden 68 = .ok (.bipush 6, 2) := by decide +kernel
theorem dX0_mayWiden_70 : decode cX0_mayWiden 70 = .ok (.if_icmp .ne 7, 3) := by decide +kernel
theorem dX0_mayWiden_73 : decode cX0_mayWiden 73 = .ok (.iconst 1, 1) := by decide +kernel
theorem dX0_mayWiden_74 : decode cX0_mayWiden 74 = .ok (.goto 4, 3) := by decide +kernel
theorem dX0_mayWiden_77 : decode cX0_mayWiden 77 = .ok (.iconst 0, 1) := by decide +kernel
theorem dX0_mayWiden_78 : decode cX0_mayWiden 78 = .ok (.ireturn, 1) := by decide +kernel
theorem dX0_mayWiden_79 : decode cX0_mayWiden 79 = .ok (.iload_n 1, 1) := by decide +kernel
theorem dX0_mayWiden_80 : decode cX0_mayWiden 80 = .ok (.bipush 6, 2) := by decide +kernel
theorem dX0_mayWiden_82 : decode cX0_mayWiden 82 = .ok (.if_icmp .ne 7, 3) := by decide +kernel
theorem dX0_mayWiden_85 : decode cX0_mayWiden 85 = .ok (.iconst 1, 1) := by decide +kernel
theorem dX0_mayWiden_86 : decode cX0_mayWiden 86 = .ok (.goto 4, 3) := by decide +kernel
theorem dX0_mayWiden_89 : decode cX0_mayWiden 89 = .ok (.iconst 0, 1) := by decide +kernel
theorem dX0_mayWiden_90 : decode cX0_mayWiden 90 = .ok (.ireturn, 1) := by decide +kernel
theorem dX0_mayWiden_91 : decode cX0_mayWiden 91 = .ok (.iconst 0, 1) := by decide +kernel
theorem dX0_mayWiden_92 : decode cX0_mayWiden 92 = .ok (.ireturn, 1) := by decide +kernel
set_option maxRecDepth 20000 in
theorem ggX0_mayUnbox_X0_isOfNumbers : GoodIn wsX0_mayUnbox wsX0_isOfNumbers := goodIn_r _ [4] (by decide +kernel) (by decide +kernel)
set_option maxRecDepth 20000 in
theorem gX0_mayUnbox_X0_isOfNumbers : GoodIn wsX0_mayUnbox (va_wsS RX0 113 yX0_isOfNumbers wsX0_isOfNumbers) := goodIn_app (goodIn_of _ (by decide +kernel)) ggX0_mayUnbox_X0_isOfNumbers
set_option maxRecDepth 20000 in
theorem ggX0_mayUnbox_X0_isBox : GoodIn wsX0_mayUnbox wsX0_isBox := goodIn_r _ [7] (by decide +kernel) (by decide +kernel)
set_option maxRecDepth 20000 in
theorem gX0_mayUnbox_X0_isBox : GoodIn wsX0_mayUnbox (va_wsS RX0 110 yX0_isBox wsX0_isBox) := goodIn_app (goodIn_of _ (by decide +kernel)) ggX0_mayUnbox_X0_isBox
set_option maxRecDepth 20000 in
theorem ggX0_mayUnbox_X0_mayWiden : GoodIn wsX0_mayUnbox wsX0_mayWiden := goodIn_r _ [10] (by decide +kernel) (by decide +kernel)
set_option maxRecDepth 20000 in
theorem gX0_mayUnbox_X0_mayWiden : GoodIn wsX0_mayUnbox (va_wsS RX0 116 yX0_mayWiden wsX0_mayWiden) := goodIn_app (goodIn_of _ (by decide +kernel)) ggX0_mayUnbox_X0_mayWiden
theorem dX0_mayUnbox_0 : decode cX0_mayUnbox 0 = .ok (.iload_n 0, 1) := by decide +kernel
theorem dX0_mayUnbox_1 : decode cX0_mayUnbox 1 = .ok (.bipush 7, 2) := by decide +kernel
theorem dX0_mayUnbox_3 : decode cX0_mayUnbox 3 = .ok (.if_icmp .ne 5, 3) := by decide +kernel
theorem dX0_mayUnbox_6 : decode cX0_mayUnbox 6 = .ok (.iconst 1, 1) := by decide +kernel
theorem dX0_mayUnbox_7 : decode cX0_mayUnbox 7 = .ok (.ireturn, 1) := by decide +kernel
theorem dX0_mayUnbox_8 : decode cX0_mayUnbox 8 = .ok (.iload_n 0, 1) := by decide +kernel
theorem dX0_mayUnbox_9 : decode cX0_mayUnbox 9 = .ok (.bipush 8, 2) := by decide +kernel
theorem dX0_mayUnbox_11 : decode cX0_mayUnbox 11 = .ok (.if_icmp .ne 8, 3) := by decide +kernel
theorem dX0_mayUnbox_14 : decode cX0_mayUnbox 14 = .ok (.iload_n 1, 1) := by decide +kernel
theorem dX0_mayUnbox_15 : decode cX0_mayUnbox 15 = .ok (.invokestatic 113, 3) := by decide +kernel
theorem dX0_mayUnbox_18 : decode cX0_mayUnbox 18 = .ok (.ireturn, 1) := by decide +kernel
theorem dX0_mayUnbox_19 : decode cX0_mayUnbox 19 = .ok (.iload_n 0, 1) := by decide +kernel
theorem dX0_mayUnbox_20 : decode cX0_mayUnbox 20 = .ok (.invokestatic 110, 3) := by decide +kernel
theorem dX0_mayUnbox_23 : decode cX0_mayUnbox 23 = .ok (.ifCond .eq 18, 3) := by decide +kernel
theorem dX0_mayUnbox_26 : decode cX0_mayUnbox 26 = .ok (.iload_n 0, 1) := by decide +kernel
theorem dX0_mayUnbox_27 : decode cX0_mayUnbox 27 = .ok (.bipush 8, 2) := by decide +kernel
theorem dX0_mayUnbox_29 : decode cX0_mayUnbox 29 = .ok (.isub, 1) := by decide +kernel
theorem dX0_mayUnbox_30 : decode cX0_mayUnbox 30 = .ok (.iload_n 1, 1) := by decide +kernel
theorem dX0_mayUnbox_31 : decode cX0_mayUnbox 31 = .ok (.invokestatic 116, 3) := by decide +kernel
theorem dX0_mayUnbox_34 : decode cX0_mayUnbox 34 = .ok (.ifCond .eq 7, 3) := by decide +kernel
theorem dX0_mayUnbox_37 : decode cX0_mayUnbox 37 = .ok (.iconst 1, 1) := by decide +kernel
theorem dX0_mayUnbox_38 : decode cX0_mayUnbox 38 = .ok (.goto 4, 3) := by decide +kernel
theorem dX0_mayUnbox_41 : decode cX0_mayUnbox 41 = .ok (.iconst 0, 1) := by decide +kernel
theorem dX0_mayUnbox_42 : decode cX0_mayUnbox 42 = .ok (.ireturn, 1) := by decide +kernel
theorem dX0_lowest_0 : decode cX0_lowest 0 = .ok (.iload_n 0, 1) := by decide +kernel
theorem dX0_lowest_1 : decode cX0_lowest 1 = .ok (.tableswitch 58 1 5 #[35, 39, 44, 49, 54], 35) := by decide +kernel
theorem dX0_lowest_36 : decode cX0_lowest 36 = .ok (.lload_n 1, 1) := by decide +kernel
theorem dX0_lowest_37 : decode cX0_lowest 37 = .ok (.lconst 1, 1) := by decide +kernel
theorem dX0_lowest_38 : decode cX0_lowest 38 = .ok (.land, 1) := by decide +kernel
theorem dX0_lowest_39 : decode cX0_lowest 39 = .ok (.lreturn, 1) := by decide +kernel
theorem dX0_lowest_40 : decode cX0_lowest 40 = .ok (.lload_n 1, 1) := by decide +kernel
theorem dX0_lowest_41 : decode cX0_lowest 41 = .ok (.l2i, 1) := by decide +kernel
theorem dX0_lowest_42 : decode cX0_lowest 42 = .ok (.i2b, 1) := by decide +kernel
theorem dX0_lowest_43 : decode cX0_lowest 43 = .ok (.i2l, 1) := by decide +kernel
theorem dX0_lowest_44 : decode cX0_lowest 44 = .ok (.lreturn, 1) := by decide +kernel
theorem dX0_lowest_45 : decode cX0_lowest 45 = .ok (.lload_n 1, 1) := by decide +kernel
theorem dX0_lowest_46 : decode cX0_lowest 46 = .ok (.l2i, 1) := by decide +kernel
theorem dX0_lowest_47 : decode cX0_lowest 47 = .ok (.i2s, 1) := by decide +kernel
theorem dX0_lowest_48 : decode cX0_lowest 48 = .ok (.i2l, 1) := by decide +kernel
theorem dX0_lowest_49 : decode cX0_lowest 49 = .ok (.lreturn, 1) := by decide +kernel
theorem dX0_lowest_50 : decode cX0_lowest 50 = .ok (.lload_n 1, 1) := by decide +kernel
theorem dX0_lowest_51 : decode cX0_lowest 51 = .ok (.l2i, 1) := by decide +kernel
theorem dX0_lowest_52 : decode cX0_lowest 52 = .ok (.i2c, 1) := by decide +kernel
theorem dX0_lowest_53 : decode cX0_lowest 53 = .ok (.i2l, 1) := by decide +kernel
theorem dX0_lowest_54 : decode cX0_lowest 54 = .ok (.lreturn, 1) := by decide +kernel
theorem dX0_lowest_55 : decode cX0_lowest 55 = .ok (.lload_n 1, 1) := by decide +kernel
theorem dX0_lowest_56 : decode cX0_lowest 56 = .ok (.l2i, 1) := by decide +kernel
theorem dX0_lowest_57 : decode cX0_lowest 57 = .ok (.i2l, 1) := by decide +kernel
theorem dX0_lowest_58 : decode cX0_lowest 58 = .ok (.lreturn, 1) := by decide +kernel
theorem dX0_lowest_59 : decode cX0_lowest 59 = .ok (.lload_n 1, 1) := by decide +kernel
theorem dX0_lowest_60 : decode cX0_lowest 60 = .ok (.lreturn, 1) := by decide +kernel
set_option maxRecDepth 20000 in
theorem ggX0_fits_X0_lowest : GoodIn wsX0_fits wsX0_lowest := goodIn_r _ [4] (by decide +kernel) (by decide +kernel)
set_option maxRecDepth 20000 in
theorem gX0_fits_X0_lowest : GoodIn wsX0_fits (va_wsS RX0 122 yX0_lowest wsX0_lowest) := goodIn_app (goodIn_of _ (by decide +kernel)) ggX0_fits_X0_lowest
theorem dX0_fits_0 : decode cX0_fits 0 = .ok (.iload_n 0, 1) := by decide +kernel
theorem dX0_fits_1 : decode cX0_fits 1 = .ok (.lload_n 1, 1) := by decide +kernel
theorem dX0_fits_2 : decode cX0_fits 2 = .ok (.invokestatic 122, 3) := by decide +kernel
theorem dX0_fits_5 : decode cX0_fits 5 = .ok (.lload_n 1, 1) := by decide +kernel
theorem dX0_fits_6 : decode cX0_fits 6 = .ok (.lcmp, 1) := by decide +kernel
theorem dX0_fits_7 : decode cX0_fits 7 = .ok (.ifCond .ne 7, 3) := by decide +kernel
theorem dX0_fits_10 : decode cX0_fits 10 = .ok (.iconst 1, 1) := by decide +kernel
theorem dX0_fits_11 : decode cX0_fits 11 = .ok (.goto 4, 3) := by decide +kernel
theorem dX0_fits_14 : decode cX0_fits 14 = .ok (.iconst 0, 1) := by decide +kernel
theorem dX0_fits_15 : decode cX0_fits 15 = .ok (.ireturn, 1) := by decide +kernel
set_option maxRecDepth 20000 in
theorem ggX0_passPlain_X0_isPlain : GoodIn wsX0_passPlain wsX0_isPlain := goodIn_r _ [4] (by decide +kernel) (by decide +kernel)
set_option maxRecDepth 20000 in
theorem gX0_passPlain_X0_isPlain : GoodIn wsX0_passPlain (va_wsS RX0 60 yX0_isPlain wsX0_isPlain) := goodIn_app (goodIn_of _ (by decide +kernel)) ggX0_passPlain_X0_isPlain
set_option maxRecDepth 20000 in
theorem ggX0_passPlain_X0_lowest : GoodIn wsX0_passPlain wsX0_lowest := goodIn_r _ [7] (by decide +kernel) (by decide +kernel)
set_option maxRecDepth 20000 in
theorem gX0_passPlain_X0_lowest : GoodIn wsX0_passPlain (va_wsS RX0 122 yX0_lowest wsX0_lowest) := goodIn_app (goodIn_of _ (by decide +kernel)) ggX0_passPlain_X0_lowest
set_option maxRecDepth 20000 in
theorem ggX0_passPlain_X0_keep : GoodIn wsX0_passPlain wsX0_keep := goodIn_r _ [11, 12, 13, 14, 15, 16, 17, 18, 19, 20, 21] (by decide +kernel) (by decide +kernel)
set_option maxRecDepth 20000 in
theorem gX0_passPlain_X0_keep : GoodIn wsX0_passPlain (wsV RX0 126 RX0 yX0_keep wsX0_keep) := goodIn_app (goodIn_of _ (by decide +kernel)) ggX0_passPlain_X0_keep
theorem dX0_passPlain_0 : decode cX0_passPlain 0 = .ok (.iload_n 2, 1) := by decide +kernel
theorem dX0_passPlain_1 : decode cX0_passPlain 1 = .ok (.invokestatic 60, 3) := by decide +kernel
theorem dX0_passPlain_4 : decode cX0_passPlain 4 = .ok (.ifCond .eq 14, 3) := by decide +kernel
theorem dX0_passPlain_7 : decode cX0_passPlain 7 = .ok (.aload_n 0, 1) := by decide +kernel
theorem dX0_passPlain_8 : decode cX0_passPlain 8 = .ok (.iconst 0, 1) := by decide +kernel
theorem dX0_passPlain_9 : decode cX0_passPlain 9 = .ok (.iload_n 2, 1) := by decide +kernel
theorem dX0_passPlain_10 : decode cX0_passPlain 10 = .ok (.lload_n 3, 1) := by decide +kernel
theorem dX0_passPlain_11 : decode cX0_passPlain 11 = .ok (.invokestatic 122, 3) := by decide +kernel
theorem dX0_passPlain_14 : decode cX0_passPlain 14 = .ok (.invokevirtual 126, 3) := by decide +kernel
theorem dX0_passPlain_17 : decode cX0_passPlain 17 = .ok (.ireturn, 1) := by decide +kernel
theorem dX0_passPlain_18 : decode cX0_passPlain 18 = .ok (.aload_n 0, 1) := by decide +kernel
theorem dX0_passPlain_19 : decode cX0_passPlain 19 = .ok (.iload_n 1, 1) := by decide +kernel
theorem dX0_passPlain_20 : decode cX0_passPlain 20 = .ok (.bipush 8, 2) := by decide +kernel
theorem dX0_passPlain_22 : decode cX0_passPlain 22 = .ok (.iadd, 1) := by decide +kernel
theorem dX0_passPlain_23 : decode cX0_passPlain 23 = .ok (.lload_n 3, 1) := by decide +kernel
theorem dX0_passPlain_24 : decode cX0_passPlain 24 = .ok (.invokevirtual 126, 3) := by decide +kernel
theorem dX0_passPlain_27 : decode cX0_passPlain 27 = .ok (.ireturn, 1) := by decide +kernel
set_option maxRecDepth 20000 in
theorem ggX0_passNull_X0_isPlain : GoodIn wsX0_passNull wsX0_isPlain := goodIn_r _ [4] (by decide +kernel) (by decide +kernel)
set_option maxRecDepth 20000 in
theorem gX0_passNull_X0_isPlain : GoodIn wsX0_passNull (va_wsS RX0 60 yX0_isPlain wsX0_isPlain) := goodIn_app (goodIn_of _ (by decide +kernel)) ggX0_passNull_X0_isPlain
set_option maxRecDepth 20000 in
theorem ggX0_passNull_X0_keep : GoodIn wsX0_passNull wsX0_keep := goodIn_r _ [8, 9, 10, 11, 12, 13, 14, 15, 16, 17, 18] (by decide +kernel) (by decide +kernel)
set_option maxRecDepth 20000 in
theorem gX0_passNull_X0_keep : GoodIn wsX0_passNull (wsV RX0 126 RX0 yX0_keep wsX0_keep) := goodIn_app (goodIn_of _ (by decide +kernel)) ggX0_passNull_X0_keep
theorem dX0_passNull_0 : decode cX0_passNull 0 = .ok (.iload_n 1, 1) := by decide +kernel
theorem dX0_passNull_1 : decode cX0_passNull 1 = .ok (.invokestatic 60, 3) := by decide +kernel
theorem dX0_passNull_4 : decode cX0_passNull 4 = .ok (.ifCond .eq 9, 3) := by decide +kernel
theorem dX0_passNull_7 : decode cX0_passNull 7 = .ok (.iload_n 2, 1) := by decide +kernel
theorem dX0_passNull_8 : decode cX0_passNull 8 = .ok (.ifCond .ne 5, 3) := by decide +kernel
theorem dX0_passNull_11 : decode cX0_passNull 11 = .ok (.iconst 1, 1) := by decide +kernel
theorem dX0_passNull_12 : decode cX0_passNull 12 = .ok (.ireturn, 1) := by decide +kernel
theorem dX0_passNull_13 : decode cX0_passNull 13 = .ok (.aload_n 0, 1) := by decide +kernel
theorem dX0_passNull_14 : decode cX0_passNull 14 = .ok (.iconst 0, 1) := by decide +kernel
theorem dX0_passNull_15 : decode cX0_passNull 15 = .ok (.lconst 0, 1) := by decide +kernel
theorem dX0_passNull_16 : decode cX0_passNull 16 = .ok (.invokevirtual 126, 3) := by decide +kernel
theorem dX0_passNull_19 : decode cX0_passNull 19 = .ok (.ireturn, 1) := by decide +kernel
set_option maxRecDepth 20000 in
theorem ggX0_passAsPlain_X0_isBox : GoodIn wsX0_passAsPlain wsX0_isBox := goodIn_r _ [4] (by decide +kernel) (by decide +kernel)
set_option maxRecDepth 20000 in
theorem gX0_passAsPlain_X0_isBox : GoodIn wsX0_passAsPlain (va_wsS RX0 110 yX0_isBox wsX0_isBox) := goodIn_app (goodIn_of _ (by decide +kernel)) ggX0_passAsPlain_X0_isBox
set_option maxRecDepth 20000 in
theorem ggX0_passAsPlain_X0_mayWiden : GoodIn wsX0_passAsPlain wsX0_mayWiden := goodIn_r _ [7] (by decide +kernel) (by decide +kernel)
set_option maxRecDepth 20000 in
theorem gX0_passAsPlain_X0_mayWiden : GoodIn wsX0_passAsPlain (va_wsS RX0 116 yX0_mayWiden wsX0_mayWiden) := goodIn_app (goodIn_of _ (by decide +kernel)) ggX0_passAsPlain_X0_mayWiden
set_option maxRecDepth 20000 in
theorem ggX0_passAsPlain_X0_lowest : GoodIn wsX0_passAsPlain wsX0_lowest := goodIn_r _ [10] (by decide +kernel) (by decide +kernel)
set_option maxRecDepth 20000 in
theorem gX0_passAsPlain_X0_lowest : GoodIn wsX0_passAsPlain (va_wsS RX0 122 yX0_lowest wsX0_lowest) := goodIn_app (goodIn_of _ (by decide +kernel)) ggX0_passAsPlain_X0_lowest
set_option maxRecDepth 20000 in
theorem ggX0_passAsPlain_X0_keep : GoodIn wsX0_passAsPlain wsX0_keep := goodIn_r _ [14, 15, 16, 17, 18, 19, 20, 21, 22, 23, 24] (by decide +kernel) (by decide +kernel)
set_option maxRecDepth 20000 in
theorem gX0_passAsPlain_X0_keep : GoodIn wsX0_passAsPlain (wsV RX0 126 RX0 yX0_keep wsX0_keep) := goodIn_app (goodIn_of _ (by decide +kernel)) ggX0_passAsPlain_X0_keep
theorem dX0_passAsPlain_0 : decode cX0_passAsPlain 0 = .ok (.iload_n 3, 1) := by decide +kernel
theorem dX0_passAsPlain_1 : decode cX0_passAsPlain 1 = .ok (.invokestatic 110, 3) := by decide +kernel
theorem dX0_passAsPlain_4 : decode cX0_passAsPlain 4 = .ok (.ifCond .eq 18, 3) := by decide +kernel
theorem dX0_passAsPlain_7 : decode cX0_passAsPlain 7 = .ok (.iload_n 2, 1) := by decide +kernel
theorem dX0_passAsPlain_8 : decode cX0_passAsPlain 8 = .ok (.ifCond .ne 16, 3) := by decide +kernel
theorem dX0_passAsPlain_11 : decode cX0_passAsPlain 11 = .ok (.iload_n 3, 1) := by decide +kernel
theorem dX0_passAsPlain_12 : decode cX0_passAsPlain 12 = .ok (.bipush 8, 2) := by decide +kernel
theorem dX0_passAsPlain_14 : decode cX0_passAsPlain 14 = .ok (.isub, 1) := by decide +kernel
theorem dX0_passAsPlain_15 : decode cX0_passAsPlain 15 = .ok (.iload_n 1, 1) := by decide +kernel
theorem dX0_passAsPlain_16 : decode cX0_passAsPlain 16 = .ok (.invokestatic 116, 3) := by decide +kernel
theorem dX0_passAsPlain_19 : decode cX0_passAsPlain 19 = .ok (.ifCond .ne 5, 3) := by decide +kernel
theorem dX0_passAsPlain_22 : decode cX0_passAsPlain 22 = .ok (.iconst 2, 1) := by decide +kernel
theorem dX0_passAsPlain_23 : decode cX0_passAsPlain 23 = .ok (.ireturn, 1) := by decide +kernel
theorem dX0_passAsPlain_24 : decode cX0_passAsPlain 24 = .ok (.aload_n 0, 1) := by decide +kernel
theorem dX0_passAsPlain_25 : decode cX0_passAsPlain 25 = .ok (.iconst 0, 1) := by decide +kernel
theorem dX0_passAsPlain_26 : decode cX0_passAsPlain 26 = .ok (.iload_n 1, 1) := by decide +kernel
theorem dX0_passAsPlain_27 : decode cX0_passAsPlain 27 = .ok (.lload 4, 2) := by decide +kernel
theorem dX0_passAsPlain_29 : decode cX0_passAsPlain 29 = .ok (.invokestatic 122, 3) := by decide +kernel
theorem dX0_passAsPlain_32 : decode cX0_passAsPlain 32 = .ok (.invokevirtual 126, 3) := by decide +kernel
theorem dX0_passAsPlain_35 : decode cX0_passAsPlain 35 = .ok (.ireturn, 1) := by decide +kernel
set_option maxRecDepth 20000 in
theorem ggX0_passAsReference_X0_isBelow : GoodIn wsX0_passAsReference wsX0_isBelow := goodIn_r _ [5, 6, 13, 14, 15, 16, 17, 18, 19, 20] (by decide +kernel) (by decide +kernel)
set_option maxRecDepth 20000 in
theorem gX0_passAsReference_X0_isBelow : GoodIn wsX0_passAsReference (wsV RX0 48 RX0 yX0_isBelow wsX0_isBelow) := goodIn_app (goodIn_of _ (by decide +kernel)) ggX0_passAsReference_X0_isBelow
set_option maxRecDepth 20000 in
theorem ggX0_passAsReference_X0_keep : GoodIn wsX0_passAsReference wsX0_keep := goodIn_r _ [10, 11, 12, 13, 14, 15, 16, 17, 18, 19, 20] (by decide +kernel) (by decide +kernel)
set_option maxRecDepth 20000 in
theorem gX0_passAsReference_X0_keep : GoodIn wsX0_passAsReference (wsV RX0 126 RX0 yX0_keep wsX0_keep) := goodIn_app (goodIn_of _ (by decide +kernel)) ggX0_passAsReference_X0_keep
theorem dX0_passAsReference_0 : decode cX0_passAsReference 0 = .ok (.aload_n 0, 1) := by decide +kernel
theorem dX0_passAsReference_1 : decode cX0_passAsReference 1 = .ok (.iload_n 2, 1) := by decide +kernel
theorem dX0_passAsReference_2 : decode cX0_passAsReference 2 = .ok (.iload_n 1, 1) := by decide +kernel
theorem dX0_passAsReference_3 : decode cX0_passAsReference 3 = .ok (.invokevirtual 48, 3) := by decide +kernel
theorem dX0_passAsReference_6 : decode cX0_passAsReference 6 = .ok (.ifCond .eq 12, 3) := by decide +kernel
theorem dX0_passAsReference_9 : decode cX0_passAsReference 9 = .ok (.aload_n 0, 1) := by decide +kernel
theorem dX0_passAsReference_10 : decode cX0_passAsReference 10 = .ok (.iload_n 2, 1) := by decide +kernel
theorem dX0_passAsReference_11 : decode cX0_passAsReference 11 = .ok (.lload_n 3, 1) := by decide +kernel
theorem dX0_passAsReference_12 : decode cX0_passAsReference 12 = .ok (.invokevirtual 126, 3) := by decide +kernel
theorem dX0_passAsReference_15 : decode cX0_passAsReference 15 = .ok (.goto 4, 3) := by decide +kernel
theorem dX0_passAsReference_18 : decode cX0_passAsReference 18 = .ok (.iconst 2, 1) := by decide +kernel
theorem dX0_passAsReference_19 : decode cX0_passAsReference 19 = .ok (.ireturn, 1) := by decide +kernel
theorem dX0_keep_0 : decode cX0_keep 0 = .ok (.aload_n 0, 1) := by decide +kernel
theorem dX0_keep_1 : decode cX0_keep 1 = .ok (.iload_n 1, 1) := by decide +kernel
theorem dX0_keep_2 : decode cX0_keep 2 = .ok (.putfield 34, 3) := by decide +kernel
theorem dX0_keep_5 : decode cX0_keep 5 = .ok (.aload_n 0, 1) := by decide +kernel
theorem dX0_keep_6 : decode cX0_keep 6 = .ok (.lload_n 2, 1) := by decide +kernel
theorem dX0_keep_7 : decode cX0_keep 7 = .ok (.putfield 37, 3) := by decide +kernel
theorem dX0_keep_10 : decode cX0_keep 10 = .ok (.iconst 0, 1) := by decide +kernel
theorem dX0_keep_11 : decode cX0_keep 11 = .ok (.ireturn, 1) := by decide +kernel
theorem dX0_isType_0 : decode cX0_isType 0 = .ok (.iload_n 1, 1) := by decide +kernel
theorem dX0_isType_1 : decode cX0_isType 1 = .ok (.ifCond .lt 15, 3) := by decide +kernel
theorem dX0_isType_4 : decode cX0_isType 4 = .ok (.iload_n 1, 1) := by decide +kernel
theorem dX0_isType_5 : decode cX0_isType 5 = .ok (.aload_n 0, 1) := by decide +kernel
theorem dX0_isType_6 : decode cX0_isType 6 = .ok (.getfield 31, 3) := by decide +kernel
theorem dX0_isType_9 : decode cX0_isType 9 = .ok (.if_icmp .ge 7, 3) := by decide +kernel
theorem dX0_isType_12 : decode cX0_isType 12 = .ok (.iconst 1, 1) := by decide +kernel
theorem dX0_isType_13 : decode cX0_isType 13 = .ok (.goto 4, 3) := by decide +kernel
theorem dX0_isType_16 : decode cX0_isType 16 = .ok (.iconst 0, 1) := by decide +kernel
theorem dX0_isType_17 : decode cX0_isType 17 = .ok (.ireturn, 1) := by decide +kernel
theorem dX0_resultOf_0 : decode cX0_resultOf 0 = .ok (.lload_n 0, 1) := by decide +kernel
theorem dX0_resultOf_1 : decode cX0_resultOf 1 = .ok (.ldc2_w 130, 3) := by decide +kernel
theorem dX0_resultOf_4 : decode cX0_resultOf 4 = .ok (.land, 1) := by decide +kernel
theorem dX0_resultOf_5 : decode cX0_resultOf 5 = .ok (.l2i, 1) := by decide +kernel
theorem dX0_resultOf_6 : decode cX0_resultOf 6 = .ok (.ireturn, 1) := by decide +kernel
theorem dX0_placesOf_0 : decode cX0_placesOf 0 = .ok (.lload_n 0, 1) := by decide +kernel
theorem dX0_placesOf_1 : decode cX0_placesOf 1 = .ok (.iconst 5, 1) := by decide +kernel
theorem dX0_placesOf_2 : decode cX0_placesOf 2 = .ok (.lushr, 1) := by decide +kernel
theorem dX0_placesOf_3 : decode cX0_placesOf 3 = .ok (.ldc2_w 132, 3) := by decide +kernel
theorem dX0_placesOf_6 : decode cX0_placesOf 6 = .ok (.land, 1) := by decide +kernel
theorem dX0_placesOf_7 : decode cX0_placesOf 7 = .ok (.l2i, 1) := by decide +kernel
theorem dX0_placesOf_8 : decode cX0_placesOf 8 = .ok (.ireturn, 1) := by decide +kernel
set_option maxRecDepth 20000 in
theorem ggX0_placeOf_X0_placeBit : GoodIn wsX0_placeOf wsX0_placeBit := goodIn_r _ [5] (by decide +kernel) (by decide +kernel)
set_option maxRecDepth 20000 in
theorem gX0_placeOf_X0_placeBit : GoodIn wsX0_placeOf (va_wsS RX0 134 yX0_placeBit wsX0_placeBit) := goodIn_app (goodIn_of _ (by decide +kernel)) ggX0_placeOf_X0_placeBit
theorem dX0_placeOf_0 : decode cX0_placeOf 0 = .ok (.lload_n 0, 1) := by decide +kernel
theorem dX0_placeOf_1 : decode cX0_placeOf 1 = .ok (.iload_n 2, 1) := by decide +kernel
theorem dX0_placeOf_2 : decode cX0_placeOf 2 = .ok (.invokestatic 134, 3) := by decide +kernel
theorem dX0_placeOf_5 : decode cX0_placeOf 5 = .ok (.lushr, 1) := by decide +kernel
theorem dX0_placeOf_6 : decode cX0_placeOf 6 = .ok (.ldc2_w 130, 3) := by decide +kernel
theorem dX0_placeOf_9 : decode cX0_placeOf 9 = .ok (.land, 1) := by decide +kernel
theorem dX0_placeOf_10 : decode cX0_placeOf 10 = .ok (.l2i, 1) := by decide +kernel
theorem dX0_placeOf_11 : decode cX0_placeOf 11 = .ok (.ireturn, 1) := by decide +kernel
theorem dX0_placeBit_0 : decode cX0_placeBit 0 = .ok (.bipush 9, 2) := by decide +kernel
theorem dX0_placeBit_2 : decode cX0_placeBit 2 = .ok (.iload_n 0, 1) := by decide +kernel
theorem dX0_placeBit_3 : decode cX0_placeBit 3 = .ok (.iconst 5, 1) := by decide +kernel
theorem dX0_placeBit_4 : decode cX0_placeBit 4 = .ok (.imul, 1) := by decide +kernel
theorem dX0_placeBit_5 : decode cX0_placeBit 5 = .ok (.iadd, 1) := by decide +kernel
theorem dX0_placeBit_6 : decode cX0_placeBit 6 = .ok (.ireturn, 1) := by decide +kernel
set_option maxRecDepth 20000 in
theorem ggX0_withPlace_X0_placesOf : GoodIn wsX0_withPlace wsX0_placesOf := goodIn_r _ [5, 6] (by decide +kernel) (by decide +kernel)
set_option maxRecDepth 20000 in
theorem gX0_withPlace_X0_placesOf : GoodIn wsX0_withPlace (va_wsS RX0 99 yX0_placesOf wsX0_placesOf) := goodIn_app (goodIn_of _ (by decide +kernel)) ggX0_withPlace_X0_placesOf
set_option maxRecDepth 20000 in
theorem ggX0_withPlace_X0_placeBit : GoodIn wsX0_withPlace wsX0_placeBit := goodIn_r _ [9] (by decide +kernel) (by decide +kernel)
set_option maxRecDepth 20000 in
theorem gX0_withPlace_X0_placeBit : GoodIn wsX0_withPlace (va_wsS RX0 134 yX0_placeBit wsX0_placeBit) := goodIn_app (goodIn_of _ (by decide +kernel)) ggX0_withPlace_X0_placeBit
theorem dX0_withPlace_0 : decode cX0_withPlace 0 = .ok (.lload_n 0, 1) := by decide +kernel
theorem dX0_withPlace_1 : decode cX0_withPlace 1 = .ok (.ldc2_w 137, 3) := by decide +kernel
theorem dX0_withPlace_4 : decode cX0_withPlace 4 = .ok (.ladd, 1) := by decide +kernel
theorem dX0_withPlace_5 : decode cX0_withPlace 5 = .ok (.iload_n 2, 1) := by decide +kernel
theorem dX0_withPlace_6 : decode cX0_withPlace 6 = .ok (.i2l, 1) := by decide +kernel
theorem dX0_withPlace_7 : decode cX0_withPlace 7 = .ok (.lload_n 0, 1) := by decide +kernel
theorem dX0_withPlace_8 : decode cX0_withPlace 8 = .ok (.invokestatic 99, 3) := by decide +kernel
theorem dX0_withPlace_11 : decode cX0_withPlace 11 = .ok (.invokestatic 134, 3) := by decide +kernel
theorem dX0_withPlace_14 : decode cX0_withPlace 14 = .ok (.lshl, 1) := by decide +kernel
theorem dX0_withPlace_15 : decode cX0_withPlace 15 = .ok (.lor, 1) := by decide +kernel
theorem dX0_withPlace_16 : decode cX0_withPlace 16 = .ok (.lreturn, 1) := by decide +kernel
set_option maxRecDepth 20000 in
theorem ggX0_withPlacesOf_X0_placeOf : GoodIn wsX0_withPlacesOf wsX0_placeOf := goodIn_r _ [4, 5, 6, 7, 3, 8] (by decide +kernel) (by decide +kernel)
set_option maxRecDepth 20000 in
theorem gX0_withPlacesOf_X0_placeOf : GoodIn wsX0_withPlacesOf (va_wsS RX0 102 yX0_placeOf wsX0_placeOf) := goodIn_app (goodIn_of _ (by decide +kernel)) ggX0_withPlacesOf_X0_placeOf
set_option maxRecDepth 20000 in
theorem ggX0_withPlacesOf_X0_withPlace : GoodIn wsX0_withPlacesOf wsX0_withPlace := goodIn_r _ [11, 12, 13, 14, 3, 15, 16, 6, 7, 8] (by decide +kernel) (by decide +kernel)
set_option maxRecDepth 20000 in
theorem gX0_withPlacesOf_X0_withPlace : GoodIn wsX0_withPlacesOf (va_wsS RX0 85 yX0_withPlace wsX0_withPlace) := goodIn_app (goodIn_of _ (by decide +kernel)) ggX0_withPlacesOf_X0_withPlace
theorem dX0_withPlacesOf_0 : decode cX0_withPlacesOf 0 = .ok (.lload_n 0, 1) := by decide +kernel
theorem dX0_withPlacesOf_1 : decode cX0_withPlacesOf 1 = .ok (.lstore 6, 2) := by decide +kernel
theorem dX0_withPlacesOf_3 : decode cX0_withPlacesOf 3 = .ok (.iload 4, 2) := by decide +kernel
theorem dX0_withPlacesOf_5 : decode cX0_withPlacesOf 5 = .ok (.istore 8, 2) := by decide +kernel
theorem dX0_withPlacesOf_7 : decode cX0_withPlacesOf 7 = .ok (.iload 8, 2) := by decide +kernel
theorem dX0_withPlacesOf_9 : decode cX0_withPlacesOf 9 = .ok (.iload 5, 2) := by decide +kernel
theorem dX0_withPlacesOf_11 : decode cX0_withPlacesOf 11 = .ok (.if_icmp .ge 22, 3) := by decide +kernel
theorem dX0_withPlacesOf_14 : decode cX0_withPlacesOf 14 = .ok (.lload 6, 2) := by decide +kernel
theorem dX0_withPlacesOf_16 : decode cX0_withPlacesOf 16 = .ok (.lload_n 2, 1) := by decide +kernel
theorem dX0_withPlacesOf_17 : decode cX0_withPlacesOf 17 = .ok (.iload 8, 2) := by decide +kernel
theorem dX0_withPlacesOf_19 : decode cX0_withPlacesOf 19 = .ok (.invokestatic 102, 3) := by decide +kernel
theorem dX0_withPlacesOf_22 : decode cX0_withPlacesOf 22 = .ok (.invokestatic 85, 3) := by decide +kernel
theorem dX0_withPlacesOf_25 : decode cX0_withPlacesOf 25 = .ok (.lstore 6, 2) := by decide +kernel
theorem dX0_withPlacesOf_27 : decode cX0_withPlacesOf 27 = .ok (.iinc 8 1, 3) := by decide +kernel
theorem dX0_withPlacesOf_30 : decode cX0_withPlacesOf 30 = .ok (.goto (-23), 3) := by decide +kernel
theorem dX0_withPlacesOf_33 : decode cX0_withPlacesOf 33 = .ok (.lload 6, 2) := by decide +kernel
theorem dX0_withPlacesOf_35 : decode cX0_withPlacesOf 35 = .ok (.lreturn, 1) := by decide +kernel
theorem dX0_numberOf_0 : decode cX0_numberOf 0 = .ok (.iconst 0, 1) := by decide +kernel
theorem dX0_numberOf_1 : decode cX0_numberOf 1 = .ok (.istore_n 3, 1) := by decide +kernel
theorem dX0_numberOf_2 : decode cX0_numberOf 2 = .ok (.iload_n 3, 1) := by decide +kernel
theorem dX0_numberOf_3 : decode cX0_numberOf 3 = .ok (.aload_n 0, 1) := by decide +kernel
theorem dX0_numberOf_4 : decode cX0_numberOf 4 = .ok (.getfield 31, 3) := by decide +kernel
theorem dX0_numberOf_7 : decode cX0_numberOf 7 = .ok (.if_icmp .ge 22, 3) := by decide +kernel
theorem dX0_numberOf_10 : decode cX0_numberOf 10 = .ok (.aload_n 0, 1) := by decide +kernel
theorem dX0_numberOf_11 : decode cX0_numberOf 11 = .ok (.getfield 27, 3) := by decide +kernel
theorem dX0_numberOf_14 : decode cX0_numberOf 14 = .ok (.iload_n 3, 1) := by decide +kernel
theorem dX0_numberOf_15 : decode cX0_numberOf 15 = .ok (.laload, 1) := by decide +kernel
theorem dX0_numberOf_16 : decode cX0_numberOf 16 = .ok (.lload_n 1, 1) := by decide +kernel
theorem dX0_numberOf_17 : decode cX0_numberOf 17 = .ok (.lcmp, 1) := by decide +kernel
theorem dX0_numberOf_18 : decode cX0_numberOf 18 = .ok (.ifCond .ne 5, 3) := by decide +kernel
theorem dX0_numberOf_21 : decode cX0_numberOf 21 = .ok (.iload_n 3, 1) := by decide +kernel
theorem dX0_numberOf_22 : decode cX0_numberOf 22 = .ok (.ireturn, 1) := by decide +kernel
theorem dX0_numberOf_23 : decode cX0_numberOf 23 = .ok (.iinc 3 1, 3) := by decide +kernel
theorem dX0_numberOf_26 : decode cX0_numberOf 26 = .ok (.goto (-24), 3) := by decide +kernel
theorem dX0_numberOf_29 : decode cX0_numberOf 29 = .ok (.aload_n 0, 1) := by decide +kernel
theorem dX0_numberOf_30 : decode cX0_numberOf 30 = .ok (.getfield 31, 3) := by decide +kernel
theorem dX0_numberOf_33 : decode cX0_numberOf 33 = .ok (.sipush 300, 3) := by decide +kernel
theorem dX0_numberOf_36 : decode cX0_numberOf 36 = .ok (.if_icmp .lt 5, 3) := by decide +kernel
theorem dX0_numberOf_39 : decode cX0_numberOf 39 = .ok (.iconst (-1), 1) := by decide +kernel
theorem dX0_numberOf_40 : decode cX0_numberOf 40 = .ok (.ireturn, 1) := by decide +kernel
theorem dX0_numberOf_41 : decode cX0_numberOf 41 = .ok (.aload_n 0, 1) := by decide +kernel
theorem dX0_numberOf_42 : decode cX0_numberOf 42 = .ok (.getfield 27, 3) := by decide +kernel
theorem dX0_numberOf_45 : decode cX0_numberOf 45 = .ok (.aload_n 0, 1) := by decide +kernel
theorem dX0_numberOf_46 : decode cX0_numberOf 46 = .ok (.getfield 31, 3) := by decide +kernel
theorem dX0_numberOf_49 : decode cX0_numberOf 49 = .ok (.lload_n 1, 1) := by decide +kernel
theorem dX0_numberOf_50 : decode cX0_numberOf 50 = .ok (.lastore, 1) := by decide +kernel
theorem dX0_numberOf_51 : decode cX0_numberOf 51 = .ok (.aload_n 0, 1) := by decide +kernel
theorem dX0_numberOf_52 : decode cX0_numberOf 52 = .ok (.dup, 1) := by decide +kernel
theorem dX0_numberOf_53 : decode cX0_numberOf 53 = .ok (.getfield 31, 3) := by decide +kernel
theorem dX0_numberOf_56 : decode cX0_numberOf 56 = .ok (.iconst 1, 1) := by decide +kernel
theorem dX0_numberOf_57 : decode cX0_numberOf 57 = .ok (.iadd, 1) := by decide +kernel
theorem dX0_numberOf_58 : decode cX0_numberOf 58 = .ok (.putfield 31, 3) := by decide +kernel
theorem dX0_numberOf_61 : decode cX0_numberOf 61 = .ok (.aload_n 0, 1) := by decide +kernel
theorem dX0_numberOf_62 : decode cX0_numberOf 62 = .ok (.getfield 31, 3) := by decide +kernel
theorem dX0_numberOf_65 : decode cX0_numberOf 65 = .ok (.iconst 1, 1) := by decide +kernel
theorem dX0_numberOf_66 : decode cX0_numberOf 66 = .ok (.isub, 1) := by decide +kernel
theorem dX0_numberOf_67 : decode cX0_numberOf 67 = .ok (.ireturn, 1) := by decide +kernel
theorem dX1_init_0 : decode cX1_init 0 = .ok (.aload_n 0, 1) := by decide +kernel
theorem dX1_init_1 : decode cX1_init 1 = .ok (.invokespecial 1, 3) := by decide +kernel
theorem dX1_init_4 : decode cX1_init 4 = .ok (.aload_n 0, 1) := by decide +kernel
theorem dX1_init_5 : decode cX1_init 5 = .ok (.bipush 12, 2) := by decide +kernel
theorem dX1_init_7 : decode cX1_init 7 = .ok (.newarray .int, 2) := by decide +kernel
theorem dX1_init_9 : decode cX1_init 9 = .ok (.putfield 7, 3) := by decide +kernel
theorem dX1_init_12 : decode cX1_init 12 = .ok (.aload_n 0, 1) := by decide +kernel
theorem dX1_init_13 : decode cX1_init 13 = .ok (.sipush 300, 3) := by decide +kernel
theorem dX1_init_16 : decode cX1_init 16 = .ok (.newarray .int, 2) := by decide +kernel
theorem dX1_init_18 : decode cX1_init 18 = .ok (.putfield 13, 3) := by decide +kernel
theorem dX1_init_21 : decode cX1_init 21 = .ok (.aload_n 0, 1) := by decide +kernel
theorem dX1_init_22 : decode cX1_init 22 = .ok (.sipush 300, 3) := by decide +kernel
theorem dX1_init_25 : decode cX1_init 25 = .ok (.newarray .int, 2) := by decide +kernel
theorem dX1_init_27 : decode cX1_init 27 = .ok (.putfield 16, 3) := by decide +kernel
end
section
theorem dX1_init_30 : decode cX1_init 30 = .ok (.aload_n 0, 1) := by decide +kernel
theorem dX1_init_31 : decode cX1_init 31 = .ok (.sipush 3000, 3) := by decide +kernel
theorem dX1_init_34 : decode cX1_init 34 = .ok (.newarray .int, 2) := by decide +kernel
theorem dX1_init_36 : decode cX1_init 36 = .ok (.putfield 19, 3) := by decide +kernel
theorem dX1_init_39 : decode cX1_init 39 = .ok (.aload_n 0, 1) := by decide +kernel
theorem dX1_init_40 : decode cX1_init 40 = .ok (.bipush 20, 2) := by decide +kernel
theorem dX1_init_42 : decode cX1_init 42 = .ok (.newarray .int, 2) := by decide +kernel
theorem dX1_init_44 : decode cX1_init 44 = .ok (.putfield 22, 3) := by decide +kernel
theorem dX1_init_47 : decode cX1_init 47 = .ok (.aload_n 0, 1) := by decide +kernel
theorem dX1_init_48 : decode cX1_init 48 = .ok (.bipush 32, 2) := by decide +kernel
theorem dX1_init_50 : decode cX1_init 50 = .ok (.newarray .int, 2) := by decide +kernel
theorem dX1_init_52 : decode cX1_init 52 = .ok (.putfield 25, 3) := by decide +kernel
theorem dX1_init_55 : decode cX1_init 55 = .ok (.return_, 1) := by decide +kernel
theorem dX1_isKind_0 : decode cX1_isKind 0 = .ok (.iload_n 1, 1) := by decide +kernel
theorem dX1_isKind_1 : decode cX1_isKind 1 = .ok (.ifCond .lt 18, 3) := by decide +kernel
theorem dX1_isKind_4 : decode cX1_isKind 4 = .ok (.iload_n 1, 1) := by decide +kernel
theorem dX1_isKind_5 : decode cX1_isKind 5 = .ok (.bipush 20, 2) := by decide +kernel
theorem dX1_isKind_7 : decode cX1_isKind 7 = .ok (.aload_n 0, 1) := by decide +kernel
theorem dX1_isKind_8 : decode cX1_isKind 8 = .ok (.getfield 28, 3) := by decide +kernel
theorem dX1_isKind_11 : decode cX1_isKind 11 = .ok (.iadd, 1) := by decide +kernel
theorem dX1_isKind_12 : decode cX1_isKind 12 = .ok (.if_icmp .ge 7, 3) := by decide +kernel
theorem dX1_isKind_15 : decode cX1_isKind 15 = .ok (.iconst 1, 1) := by decide +kernel
theorem dX1_isKind_16 : decode cX1_isKind 16 = .ok (.goto 4, 3) := by decide +kernel
theorem dX1_isKind_19 : decode cX1_isKind 19 = .ok (.iconst 0, 1) := by decide +kernel
theorem dX1_isKind_20 : decode cX1_isKind 20 = .ok (.ireturn, 1) := by decide +kernel
set_option maxRecDepth 20000 in
theorem ggX1_newClass_X1_isKind : GoodIn wsX1_newClass wsX1_isKind := goodIn_r _ [7, 1, 8, 9, 10, 11, 12, 13, 14, 15, 16, 17, 18, 19, 20] (by decide +kernel) (by decide +kernel)
set_option maxRecDepth 20000 in
theorem gX1_newClass_X1_isKind : GoodIn wsX1_newClass (wsV RX1 68 RX1 yX1_isKind wsX1_isKind) := goodIn_app (goodIn_of _ (by decide +kernel)) ggX1_newClass_X1_isKind
theorem dX1_newClass_0 : decode cX1_newClass 0 = .ok (.aload_n 0, 1) := by decide +kernel
theorem dX1_newClass_1 : decode cX1_newClass 1 = .ok (.getfield 28, 3) := by decide +kernel
theorem dX1_newClass_4 : decode cX1_newClass 4 = .ok (.bipush 12, 2) := by decide +kernel
theorem dX1_newClass_6 : decode cX1_newClass 6 = .ok (.if_icmp .eq 29, 3) := by decide +kernel
theorem dX1_newClass_9 : decode cX1_newClass 9 = .ok (.iload_n 1, 1) := by decide +kernel
theorem dX1_newClass_10 : decode cX1_newClass 10 = .ok (.bipush 7, 2) := by decide +kernel
theorem dX1_newClass_12 : decode cX1_newClass 12 = .ok (.if_icmp .eq 25, 3) := by decide +kernel
theorem dX1_newClass_15 : decode cX1_newClass 15 = .ok (.iload_n 1, 1) := by decide +kernel
theorem dX1_newClass_16 : decode cX1_newClass 16 = .ok (.bipush 19, 2) := by decide +kernel
theorem dX1_newClass_18 : decode cX1_newClass 18 = .ok (.if_icmp .eq 19, 3) := by decide +kernel
theorem dX1_newClass_21 : decode cX1_newClass 21 = .ok (.iload_n 1, 1) := by decide +kernel
theorem dX1_newClass_22 : decode cX1_newClass 22 = .ok (.bipush 20, 2) := by decide +kernel
theorem dX1_newClass_24 : decode cX1_newClass 24 = .ok (.if_icmp .lt 11, 3) := by decide +kernel
theorem dX1_newClass_27 : decode cX1_newClass 27 = .ok (.aload_n 0, 1) := by decide +kernel
theorem dX1_newClass_28 : decode cX1_newClass 28 = .ok (.iload_n 1, 1) := by decide +kernel
theorem dX1_newClass_29 : decode cX1_newClass 29 = .ok (.invokevirtual 68, 3) := by decide +kernel
theorem dX1_newClass_32 : decode cX1_newClass 32 = .ok (.ifCond .ne 5, 3) := by decide +kernel
theorem dX1_newClass_35 : decode cX1_newClass 35 = .ok (.iconst (-1), 1) := by decide +kernel
theorem dX1_newClass_36 : decode cX1_newClass 36 = .ok (.ireturn, 1) := by decide +kernel
theorem dX1_newClass_37 : decode cX1_newClass 37 = .ok (.aload_n 0, 1) := by decide +kernel
theorem dX1_newClass_38 : decode cX1_newClass 38 = .ok (.getfield 7, 3) := by decide +kernel
theorem dX1_newClass_41 : decode cX1_newClass 41 = .ok (.aload_n 0, 1) := by decide +kernel
theorem dX1_newClass_42 : decode cX1_newClass 42 = .ok (.getfield 28, 3) := by decide +kernel
theorem dX1_newClass_45 : decode cX1_newClass 45 = .ok (.iload_n 1, 1) := by decide +kernel
theorem dX1_newClass_46 : decode cX1_newClass 46 = .ok (.iastore, 1) := by decide +kernel
theorem dX1_newClass_47 : decode cX1_newClass 47 = .ok (.aload_n 0, 1) := by decide +kernel
theorem dX1_newClass_48 : decode cX1_newClass 48 = .ok (.dup, 1) := by decide +kernel
theorem dX1_newClass_49 : decode cX1_newClass 49 = .ok (.getfield 28, 3) := by decide +kernel
theorem dX1_newClass_52 : decode cX1_newClass 52 = .ok (.iconst 1, 1) := by decide +kernel
theorem dX1_newClass_53 : decode cX1_newClass 53 = .ok (.iadd, 1) := by decide +kernel
theorem dX1_newClass_54 : decode cX1_newClass 54 = .ok (.putfield 28, 3) := by decide +kernel
theorem dX1_newClass_57 : decode cX1_newClass 57 = .ok (.bipush 20, 2) := by decide +kernel
theorem dX1_newClass_59 : decode cX1_newClass 59 = .ok (.aload_n 0, 1) := by decide +kernel
theorem dX1_newClass_60 : decode cX1_newClass 60 = .ok (.getfield 28, 3) := by decide +kernel
theorem dX1_newClass_63 : decode cX1_newClass 63 = .ok (.iadd, 1) := by decide +kernel
theorem dX1_newClass_64 : decode cX1_newClass 64 = .ok (.iconst 1, 1) := by decide +kernel
theorem dX1_newClass_65 : decode cX1_newClass 65 = .ok (.isub, 1) := by decide +kernel
theorem dX1_newClass_66 : decode cX1_newClass 66 = .ok (.ireturn, 1) := by decide +kernel
set_option maxRecDepth 20000 in
theorem ggX1_below_X1_isKind : GoodIn wsX1_below wsX1_isKind := goodIn_r _ [5, 6, 7, 8, 9, 10, 11, 12, 13, 14, 15, 16, 17, 18, 19] (by decide +kernel) (by decide +kernel)
set_option maxRecDepth 20000 in
theorem gX1_below_X1_isKind : GoodIn wsX1_below (wsV RX1 68 RX1 yX1_isKind wsX1_isKind) := goodIn_app (goodIn_of _ (by decide +kernel)) ggX1_below_X1_isKind
theorem dX1_below_0 : decode cX1_below 0 = .ok (.aload_n 0, 1) := by decide +kernel
theorem dX1_below_1 : decode cX1_below 1 = .ok (.iload_n 1, 1) := by decide +kernel
theorem dX1_below_2 : decode cX1_below 2 = .ok (.invokevirtual 68, 3) := by decide +kernel
theorem dX1_below_5 : decode cX1_below 5 = .ok (.ifCond .eq 24, 3) := by decide +kernel
theorem dX1_below_8 : decode cX1_below 8 = .ok (.aload_n 0, 1) := by decide +kernel
theorem dX1_below_9 : decode cX1_below 9 = .ok (.iload_n 2, 1) := by decide +kernel
theorem dX1_below_10 : decode cX1_below 10 = .ok (.invokevirtual 68, 3) := by decide +kernel
theorem dX1_below_13 : decode cX1_below 13 = .ok (.ifCond .eq 16, 3) := by decide +kernel
theorem dX1_below_16 : decode cX1_below 16 = .ok (.aload_n 0, 1) := by decide +kernel
theorem dX1_below_17 : decode cX1_below 17 = .ok (.iload_n 1, 1) := by decide +kernel
theorem dX1_below_18 : decode cX1_below 18 = .ok (.iload_n 2, 1) := by decide +kernel
theorem dX1_below_19 : decode cX1_below 19 = .ok (.invokevirtual 43, 3) := by decide +kernel
theorem dX1_below_22 : decode cX1_below 22 = .ok (.ifCond .eq 7, 3) := by decide +kernel
theorem dX1_below_25 : decode cX1_below 25 = .ok (.iconst 1, 1) := by decide +kernel
theorem dX1_below_26 : decode cX1_below 26 = .ok (.goto 4, 3) := by decide +kernel
theorem dX1_below_29 : decode cX1_below 29 = .ok (.iconst 0, 1) := by decide +kernel
theorem dX1_below_30 : decode cX1_below 30 = .ok (.ireturn, 1) := by decide +kernel
set_option maxRecDepth 20000 in
theorem ggL_law_X0_init : GoodIn wsL_law wsX0_init := goodIn_r _ [8, 9, 10, 11, 12, 13, 14, 15, 16, 17, 18, 19, 20, 21, 22, 23, 2, 24, 25, 26, 27, 28, 29, 30, 187, 188, 189, 190, 191, 192, 193, 194] (by decide +kernel) (by decide +kernel)
set_option maxRecDepth 20000 in
theorem gL_law_X0_init : GoodIn wsL_law (wsX0_init) := ggL_law_X0_init
set_option maxRecDepth 20000 in
theorem ggL_law_X1_init : GoodIn wsL_law wsX1_init := goodIn_r _ [33, 34, 10, 11, 12, 35, 36, 37, 38, 39, 40, 195, 196, 197, 198, 199, 200, 201, 202, 203, 204, 205, 206, 207] (by decide +kernel) (by decide +kernel)
set_option maxRecDepth 20000 in
theorem gL_law_X1_init : GoodIn wsL_law (wsX1_init) := ggL_law_X1_init
set_option maxRecDepth 20000 in
theorem ggL_law_X0_newClass : GoodIn wsL_law wsX0_newClass := goodIn_r _ [44, 14, 13, 45, 46, 47, 2, 48, 49, 50, 51, 52, 187, 188, 189, 190, 191, 192, 193, 194] (by decide +kernel) (by decide +kernel)
set_option maxRecDepth 20000 in
theorem gL_law_X0_newClass : GoodIn wsL_law (wsV RL 13 RX0 yX0_newClass wsX0_newClass) := goodIn_app (goodIn_of _ (by decide +kernel)) ggL_law_X0_newClass
set_option maxRecDepth 20000 in
theorem ggL_law_X1_newClass : GoodIn wsL_law wsX1_newClass := goodIn_r _ [56, 57, 35, 58, 59, 60, 5, 61, 195, 196, 197, 198, 199, 200, 201, 202, 203, 204, 205, 206, 207] (by decide +kernel) (by decide +kernel)
set_option maxRecDepth 20000 in
theorem gL_law_X1_newClass : GoodIn wsL_law (wsV RL 17 RX1 yX1_newClass wsX1_newClass) := goodIn_app (goodIn_of _ (by decide +kernel)) ggL_law_X1_newClass
set_option maxRecDepth 20000 in
theorem ggL_law_X0_below : GoodIn wsL_law wsX0_below := goodIn_r _ [65, 49, 50, 51, 2, 52, 14, 66, 67, 68, 69, 13, 187, 188, 189, 190, 191, 192, 193, 194] (by decide +kernel) (by decide +kernel)
set_option maxRecDepth 20000 in
theorem gL_law_X0_below : GoodIn wsL_law (wsV RL 18 RX0 yX0_below wsX0_below) := goodIn_app (goodIn_of _ (by decide +kernel)) ggL_law_X0_below
set_option maxRecDepth 20000 in
theorem ggL_law_X1_below : GoodIn wsL_law wsX1_below := goodIn_r _ [73, 58, 59, 60, 5, 61, 57, 195, 196, 197, 198, 199, 200, 201, 202, 203, 204, 205, 206, 207] (by decide +kernel) (by decide +kernel)
set_option maxRecDepth 20000 in
theorem gL_law_X1_below : GoodIn wsL_law (wsV RL 22 RX1 yX1_below wsX1_below) := goodIn_app (goodIn_of _ (by decide +kernel)) ggL_law_X1_below
set_option maxRecDepth 20000 in
theorem ggL_law_X0_meet : GoodIn wsL_law wsX0_meet := goodIn_r _ [77, 13, 14, 49, 50, 51, 2, 52, 187, 188, 189, 190, 191, 192, 193, 194] (by decide +kernel) (by decide +kernel)
set_option maxRecDepth 20000 in
theorem gL_law_X0_meet : GoodIn wsL_law (wsV RL 23 RX0 yX0_meet wsX0_meet) := goodIn_app (goodIn_of _ (by decide +kernel)) ggL_law_X0_meet
set_option maxRecDepth 20000 in
theorem ggL_law_X0_may : GoodIn wsL_law wsX0_may := goodIn_r _ [81, 49, 50, 51, 2, 52, 14, 82, 83, 84, 85, 86, 87, 88, 89, 90, 91, 66, 67, 68, 69, 13, 25, 26, 27, 92, 93, 94, 28, 29, 30, 187, 188, 189, 190, 191, 192, 193, 194] (by decide +kernel) (by decide +kernel)
set_option maxRecDepth 20000 in
theorem gL_law_X0_may : GoodIn wsL_law (wsV RL 28 RX0 yX0_may wsX0_may) := goodIn_app (goodIn_of _ (by decide +kernel)) ggL_law_X0_may
set_option maxRecDepth 20000 in
theorem ggL_law_X0_pass : GoodIn wsL_law wsX0_pass := goodIn_r _ [98, 99, 79, 80, 2, 81, 49, 50, 51, 52, 14, 82, 83, 84, 85, 86, 87, 88, 89, 90, 91, 66, 67, 68, 69, 13, 25, 26, 27, 92, 93, 94, 28, 29, 30, 100, 101, 102, 103, 104, 105, 106, 107, 108, 109, 110, 111, 112, 113, 20, 21, 114, 115, 116, 117, 118, 119, 120, 121, 122, 123, 124, 125, 126, 127, 128, 129, 187, 188, 189, 190, 191, 192, 193, 194] (by decide +kernel) (by decide +kernel)
set_option maxRecDepth 20000 in
theorem gL_law_X0_pass : GoodIn wsL_law (wsV RL 35 RX0 yX0_pass wsX0_pass) := goodIn_app (goodIn_of _ (by decide +kernel)) ggL_law_X0_pass
set_option maxRecDepth 20000 in
theorem ggL_law_X0_kind : GoodIn wsL_law wsX0_kind := goodIn_r _ [133, 20, 187, 188, 189, 190, 191, 192, 193, 194] (by decide +kernel) (by decide +kernel)
set_option maxRecDepth 20000 in
theorem gL_law_X0_kind : GoodIn wsL_law (wsV RL 40 RX0 yX0_kind wsX0_kind) := goodIn_app (goodIn_of _ (by decide +kernel)) ggL_law_X0_kind
set_option maxRecDepth 20000 in
theorem ggL_law_X0_number : GoodIn wsL_law wsX0_number := goodIn_r _ [137, 21, 187, 188, 189, 190, 191, 192, 193, 194] (by decide +kernel) (by decide +kernel)
set_option maxRecDepth 20000 in
theorem gL_law_X0_number : GoodIn wsL_law (wsV RL 45 RX0 yX0_number wsX0_number) := goodIn_app (goodIn_of _ (by decide +kernel)) ggL_law_X0_number
set_option maxRecDepth 20000 in
theorem ggL_law_X0_put : GoodIn wsL_law wsX0_put := goodIn_r _ [141, 16, 15, 187, 188, 189, 190, 191, 192, 193, 194] (by decide +kernel) (by decide +kernel)
set_option maxRecDepth 20000 in
theorem gL_law_X0_put : GoodIn wsL_law (wsV RL 50 RX0 yX0_put wsX0_put) := goodIn_app (goodIn_of _ (by decide +kernel)) ggL_law_X0_put
set_option maxRecDepth 20000 in
theorem ggL_law_X0_type : GoodIn wsL_law wsX0_type := goodIn_r _ [145, 16, 15, 49, 50, 51, 2, 52, 14, 146, 147, 148, 149, 150, 151, 152, 153, 154, 155, 156, 157, 158, 159, 160, 19, 18, 187, 188, 189, 190, 191, 192, 193, 194] (by decide +kernel) (by decide +kernel)
set_option maxRecDepth 20000 in
theorem gL_law_X0_type : GoodIn wsL_law (wsV RL 55 RX0 yX0_type wsX0_type) := goodIn_app (goodIn_of _ (by decide +kernel)) ggL_law_X0_type
set_option maxRecDepth 20000 in
theorem ggL_law_X0_typeAbout : GoodIn wsL_law wsX0_typeAbout := goodIn_r _ [164, 18, 165, 166, 167, 2, 168, 19, 169, 170, 171, 172, 150, 151, 152, 153, 173, 174, 175, 154, 155, 156, 187, 188, 189, 190, 191, 192, 193, 194] (by decide +kernel) (by decide +kernel)
set_option maxRecDepth 20000 in
theorem gL_law_X0_typeAbout : GoodIn wsL_law (wsV RL 59 RX0 yX0_typeAbout wsX0_typeAbout) := goodIn_app (goodIn_of _ (by decide +kernel)) ggL_law_X0_typeAbout
set_option maxRecDepth 20000 in
theorem ggL_law_X0_mayBe : GoodIn wsL_law wsX0_mayBe := goodIn_r _ [179, 18, 165, 166, 167, 2, 168, 19, 150, 151, 152, 153, 169, 170, 171, 172, 99, 79, 80, 81, 49, 50, 51, 52, 14, 82, 83, 84, 85, 86, 87, 88, 89, 90, 91, 66, 67, 68, 69, 13, 25, 26, 27, 92, 93, 94, 28, 29, 30, 173, 174, 175, 154, 155, 156, 187, 188, 189, 190, 191, 192, 193, 194] (by decide +kernel) (by decide +kernel)
set_option maxRecDepth 20000 in
theorem gL_law_X0_mayBe : GoodIn wsL_law (wsV RL 63 RX0 yX0_mayBe wsX0_mayBe) := goodIn_app (goodIn_of _ (by decide +kernel)) ggL_law_X0_mayBe
set_option maxRecDepth 20000 in
theorem ggL_law_X0_changed : GoodIn wsL_law wsX0_changed := goodIn_r _ [183, 18, 165, 166, 167, 2, 168, 19, 150, 151, 152, 153, 169, 170, 171, 172, 184, 185, 186, 173, 174, 175, 154, 155, 156, 146, 147, 148, 149, 157, 158, 159, 160, 187, 188, 189, 190, 191, 192, 193, 194] (by decide +kernel) (by decide +kernel)
set_option maxRecDepth 20000 in
theorem gL_law_X0_changed : GoodIn wsL_law (wsV RL 68 RX0 yX0_changed wsX0_changed) := goodIn_app (goodIn_of _ (by decide +kernel)) ggL_law_X0_changed
theorem dL_law_0 : decode cL_law 0 = .ok (.new 7, 3) := by decide +kernel
theorem dL_law_3 : decode cL_law 3 = .ok (.dup, 1) := by decide +kernel
theorem dL_law_4 : decode cL_law 4 = .ok (.invokespecial 9, 3) := by decide +kernel
theorem dL_law_7 : decode cL_law 7 = .ok (.astore_n 1, 1) := by decide +kernel
theorem dL_law_8 : decode cL_law 8 = .ok (.new 10, 3) := by decide +kernel
theorem dL_law_11 : decode cL_law 11 = .ok (.dup, 1) := by decide +kernel
theorem dL_law_12 : decode cL_law 12 = .ok (.invokespecial 12, 3) := by decide +kernel
theorem dL_law_15 : decode cL_law 15 = .ok (.astore_n 2, 1) := by decide +kernel
theorem dL_law_16 : decode cL_law 16 = .ok (.iconst 0, 1) := by decide +kernel
theorem dL_law_17 : decode cL_law 17 = .ok (.istore_n 3, 1) := by decide +kernel
theorem dL_law_18 : decode cL_law 18 = .ok (.iload_n 3, 1) := by decide +kernel
theorem dL_law_19 : decode cL_law 19 = .ok (.aload_n 0, 1) := by decide +kernel
theorem dL_law_20 : decode cL_law 20 = .ok (.arraylength, 1) := by decide +kernel
theorem dL_law_21 : decode cL_law 21 = .ok (.bipush 7, 2) := by decide +kernel
theorem dL_law_23 : decode cL_law 23 = .ok (.isub, 1) := by decide +kernel
theorem dL_law_24 : decode cL_law 24 = .ok (.if_icmp .gt 581, 3) := by decide +kernel
theorem dL_law_27 : decode cL_law 27 = .ok (.aload_n 0, 1) := by decide +kernel
theorem dL_law_28 : decode cL_law 28 = .ok (.iload_n 3, 1) := by decide +kernel
theorem dL_law_29 : decode cL_law 29 = .ok (.iaload, 1) := by decide +kernel
theorem dL_law_30 : decode cL_law 30 = .ok (.bipush 15, 2) := by decide +kernel
theorem dL_law_32 : decode cL_law 32 = .ok (.iand, 1) := by decide +kernel
theorem dL_law_33 : decode cL_law 33 = .ok (.tableswitch 566 0 11 #[63, 86, 119, 152, 237, 348, 361, 375, 398, 421, 454, 513], 63) := by decide +kernel
theorem dL_law_96 : decode cL_law 96 = .ok (.aload_n 1, 1) := by decide +kernel
theorem dL_law_97 : decode cL_law 97 = .ok (.aload_n 0, 1) := by decide +kernel
theorem dL_law_98 : decode cL_law 98 = .ok (.iload_n 3, 1) := by decide +kernel
theorem dL_law_99 : decode cL_law 99 = .ok (.iconst 1, 1) := by decide +kernel
theorem dL_law_100 : decode cL_law 100 = .ok (.iadd, 1) := by decide +kernel
theorem dL_law_101 : decode cL_law 101 = .ok (.iaload, 1) := by decide +kernel
theorem dL_law_102 : decode cL_law 102 = .ok (.invokevirtual 13, 3) := by decide +kernel
theorem dL_law_105 : decode cL_law 105 = .ok (.aload_n 2, 1) := by decide +kernel
theorem dL_law_106 : decode cL_law 106 = .ok (.aload_n 0, 1) := by decide +kernel
theorem dL_law_107 : decode cL_law 107 = .ok (.iload_n 3, 1) := by decide +kernel
theorem dL_law_108 : decode cL_law 108 = .ok (.iconst 1, 1) := by decide +kernel
theorem dL_law_109 : decode cL_law 109 = .ok (.iadd, 1) := by decide +kernel
theorem dL_law_110 : decode cL_law 110 = .ok (.iaload, 1) := by decide +kernel
theorem dL_law_111 : decode cL_law 111 = .ok (.invokevirtual 17, 3) := by decide +kernel
theorem dL_law_114 : decode cL_law 114 = .ok (.if_icmp .eq 485, 3) := by decide +kernel
theorem dL_law_117 : decode cL_law 117 = .ok (.iconst 0, 1) := by decide +kernel
theorem dL_law_118 : decode cL_law 118 = .ok (.ireturn, 1) := by decide +kernel
theorem dL_law_119 : decode cL_law 119 = .ok (.aload_n 1, 1) := by decide +kernel
theorem dL_law_120 : decode cL_law 120 = .ok (.aload_n 0, 1) := by decide +kernel
theorem dL_law_121 : decode cL_law 121 = .ok (.iload_n 3, 1) := by decide +kernel
theorem dL_law_122 : decode cL_law 122 = .ok (.iconst 1, 1) := by decide +kernel
theorem dL_law_123 : decode cL_law 123 = .ok (.iadd, 1) := by decide +kernel
theorem dL_law_124 : decode cL_law 124 = .ok (.iaload, 1) := by decide +kernel
theorem dL_law_125 : decode cL_law 125 = .ok (.aload_n 0, 1) := by decide +kernel
theorem dL_law_126 : decode cL_law 126 = .ok (.iload_n 3, 1) := by decide +kernel
theorem dL_law_127 : decode cL_law 127 = .ok (.iconst 2, 1) := by decide +kernel
theorem dL_law_128 : decode cL_law 128 = .ok (.iadd, 1) := by decide +kernel
theorem dL_law_129 : decode cL_law 129 = .ok (.iaload, 1) := by decide +kernel
theorem dL_law_130 : decode cL_law 130 = .ok (.invokevirtual 18, 3) := by decide +kernel
theorem dL_law_133 : decode cL_law 133 = .ok (.aload_n 2, 1) := by decide +kernel
theorem dL_law_134 : decode cL_law 134 = .ok (.aload_n 0, 1) := by decide +kernel
theorem dL_law_135 : decode cL_law 135 = .ok (.iload_n 3, 1) := by decide +kernel
theorem dL_law_136 : decode cL_law 136 = .ok (.iconst 1, 1) := by decide +kernel
theorem dL_law_137 : decode cL_law 137 = .ok (.iadd, 1) := by decide +kernel
theorem dL_law_138 : decode cL_law 138 = .ok (.iaload, 1) := by decide +kernel
theorem dL_law_139 : decode cL_law 139 = .ok (.aload_n 0, 1) := by decide +kernel
theorem dL_law_140 : decode cL_law 140 = .ok (.iload_n 3, 1) := by decide +kernel
theorem dL_law_141 : decode cL_law 141 = .ok (.iconst 2, 1) := by decide +kernel
theorem dL_law_142 : decode cL_law 142 = .ok (.iadd, 1) := by decide +kernel
theorem dL_law_143 : decode cL_law 143 = .ok (.iaload, 1) := by decide +kernel
theorem dL_law_144 : decode cL_law 144 = .ok (.invokevirtual 22, 3) := by decide +kernel
theorem dL_law_147 : decode cL_law 147 = .ok (.if_icmp .eq 452, 3) := by decide +kernel
theorem dL_law_150 : decode cL_law 150 = .ok (.iconst 0, 1) := by decide +kernel
theorem dL_law_151 : decode cL_law 151 = .ok (.ireturn, 1) := by decide +kernel
theorem dL_law_152 : decode cL_law 152 = .ok (.aload_n 1, 1) := by decide +kernel
theorem dL_law_153 : decode cL_law 153 = .ok (.aload_n 0, 1) := by decide +kernel
theorem dL_law_154 : decode cL_law 154 = .ok (.iload_n 3, 1) := by decide +kernel
theorem dL_law_155 : decode cL_law 155 = .ok (.iconst 1, 1) := by decide +kernel
theorem dL_law_156 : decode cL_law 156 = .ok (.iadd, 1) := by decide +kernel
theorem dL_law_157 : decode cL_law 157 = .ok (.iaload, 1) := by decide +kernel
theorem dL_law_158 : decode cL_law 158 = .ok (.aload_n 0, 1) := by decide +kernel
theorem dL_law_159 : decode cL_law 159 = .ok (.iload_n 3, 1) := by decide +kernel
theorem dL_law_160 : decode cL_law 160 = .ok (.iconst 2, 1) := by decide +kernel
theorem dL_law_161 : decode cL_law 161 = .ok (.iadd, 1) := by decide +kernel
theorem dL_law_162 : decode cL_law 162 = .ok (.iaload, 1) := by decide +kernel
theorem dL_law_163 : decode cL_law 163 = .ok (.invokevirtual 23, 3) := by decide +kernel
theorem dL_law_166 : decode cL_law 166 = .ok (.aload_n 2, 1) := by decide +kernel
theorem dL_law_167 : decode cL_law 167 = .ok (.aload_n 0, 1) := by decide +kernel
theorem dL_law_168 : decode cL_law 168 = .ok (.iload_n 3, 1) := by decide +kernel
theorem dL_law_169 : decode cL_law 169 = .ok (.iconst 1, 1) := by decide +kernel
theorem dL_law_170 : decode cL_law 170 = .ok (.iadd, 1) := by decide +kernel
theorem dL_law_171 : decode cL_law 171 = .ok (.iaload, 1) := by decide +kernel
theorem dL_law_172 : decode cL_law 172 = .ok (.aload_n 0, 1) := by decide +kernel
theorem dL_law_173 : decode cL_law 173 = .ok (.iload_n 3, 1) := by decide +kernel
theorem dL_law_174 : decode cL_law 174 = .ok (.iconst 2, 1) := by decide +kernel
theorem dL_law_175 : decode cL_law 175 = .ok (.iadd, 1) := by decide +kernel
theorem dL_law_176 : decode cL_law 176 = .ok (.iaload, 1) := by decide +kernel
theorem dL_law_177 : decode cL_law 177 = .ok (.invokevirtual 27, 3) := by decide +kernel
theorem dL_law_180 : decode cL_law 180 = .ok (.if_icmp .eq 419, 3) := by decide +kernel
theorem dL_law_183 : decode cL_law 183 = .ok (.iconst 0, 1) := by decide +kernel
theorem dL_law_184 : decode cL_law 184 = .ok (.ireturn, 1) := by decide +kernel
theorem dL_law_185 : decode cL_law 185 = .ok (.aload_n 1, 1) := by decide +kernel
theorem dL_law_186 : decode cL_law 186 = .ok (.aload_n 0, 1) := by decide +kernel
theorem dL_law_187 : decode cL_law 187 = .ok (.iload_n 3, 1) := by decide +kernel
theorem dL_law_188 : decode cL_law 188 = .ok (.iconst 1, 1) := by decide +kernel
theorem dL_law_189 : decode cL_law 189 = .ok (.iadd, 1) := by decide +kernel
theorem dL_law_190 : decode cL_law 190 = .ok (.iaload, 1) := by decide +kernel
theorem dL_law_191 : decode cL_law 191 = .ok (.aload_n 0, 1) := by decide +kernel
theorem dL_law_192 : decode cL_law 192 = .ok (.iload_n 3, 1) := by decide +kernel
theorem dL_law_193 : decode cL_law 193 = .ok (.iconst 2, 1) := by decide +kernel
theorem dL_law_194 : decode cL_law 194 = .ok (.iadd, 1) := by decide +kernel
theorem dL_law_195 : decode cL_law 195 = .ok (.iaload, 1) := by decide +kernel
theorem dL_law_196 : decode cL_law 196 = .ok (.aload_n 0, 1) := by decide +kernel
theorem dL_law_197 : decode cL_law 197 = .ok (.iload_n 3, 1) := by decide +kernel
theorem dL_law_198 : decode cL_law 198 = .ok (.iconst 3, 1) := by decide +kernel
theorem dL_law_199 : decode cL_law 199 = .ok (.iadd, 1) := by decide +kernel
theorem dL_law_200 : decode cL_law 200 = .ok (.iaload, 1) := by decide +kernel
theorem dL_law_201 : decode cL_law 201 = .ok (.ifCond .eq 7, 3) := by decide +kernel
theorem dL_law_204 : decode cL_law 204 = .ok (.iconst 1, 1) := by decide +kernel
theorem dL_law_205 : decode cL_law 205 = .ok (.goto 4, 3) := by decide +kernel
theorem dL_law_208 : decode cL_law 208 = .ok (.iconst 0, 1) := by decide +kernel
theorem dL_law_209 : decode cL_law 209 = .ok (.aload_n 0, 1) := by decide +kernel
theorem dL_law_210 : decode cL_law 210 = .ok (.iload_n 3, 1) := by decide +kernel
theorem dL_law_211 : decode cL_law 211 = .ok (.iconst 4, 1) := by decide +kernel
theorem dL_law_212 : decode cL_law 212 = .ok (.iadd, 1) := by decide +kernel
theorem dL_law_213 : decode cL_law 213 = .ok (.iaload, 1) := by decide +kernel
theorem dL_law_214 : decode cL_law 214 = .ok (.ifCond .eq 7, 3) := by decide +kernel
theorem dL_law_217 : decode cL_law 217 = .ok (.iconst 1, 1) := by decide +kernel
theorem dL_law_218 : decode cL_law 218 = .ok (.goto 4, 3) := by decide +kernel
theorem dL_law_221 : decode cL_law 221 = .ok (.iconst 0, 1) := by decide +kernel
theorem dL_law_222 : decode cL_law 222 = .ok (.invokevirtual 28, 3) := by decide +kernel
theorem dL_law_225 : decode cL_law 225 = .ok (.aload_n 2, 1) := by decide +kernel
theorem dL_law_226 : decode cL_law 226 = .ok (.aload_n 0, 1) := by decide +kernel
theorem dL_law_227 : decode cL_law 227 = .ok (.iload_n 3, 1) := by decide +kernel
theorem dL_law_228 : decode cL_law 228 = .ok (.iconst 1, 1) := by decide +kernel
theorem dL_law_229 : decode cL_law 229 = .ok (.iadd, 1) := by decide +kernel
theorem dL_law_230 : decode cL_law 230 = .ok (.iaload, 1) := by decide +kernel
theorem dL_law_231 : decode cL_law 231 = .ok (.aload_n 0, 1) := by decide +kernel
theorem dL_law_232 : decode cL_law 232 = .ok (.iload_n 3, 1) := by decide +kernel
theorem dL_law_233 : decode cL_law 233 = .ok (.iconst 2, 1) := by decide +kernel
theorem dL_law_234 : decode cL_law 234 = .ok (.iadd, 1) := by decide +kernel
theorem dL_law_235 : decode cL_law 235 = .ok (.iaload, 1) := by decide +kernel
theorem dL_law_236 : decode cL_law 236 = .ok (.aload_n 0, 1) := by decide +kernel
theorem dL_law_237 : decode cL_law 237 = .ok (.iload_n 3, 1) := by decide +kernel
theorem dL_law_238 : decode cL_law 238 = .ok (.iconst 3, 1) := by decide +kernel
theorem dL_law_239 : decode cL_law 239 = .ok (.iadd, 1) := by decide +kernel
theorem dL_law_240 : decode cL_law 240 = .ok (.iaload, 1) := by decide +kernel
theorem dL_law_241 : decode cL_law 241 = .ok (.ifCond .eq 7, 3) := by decide +kernel
theorem dL_law_244 : decode cL_law 244 = .ok (.iconst 1, 1) := by decide +kernel
theorem dL_law_245 : decode cL_law 245 = .ok (.goto 4, 3) := by decide +kernel
theorem dL_law_248 : decode cL_law 248 = .ok (.iconst 0, 1) := by decide +kernel
theorem dL_law_249 : decode cL_law 249 = .ok (.aload_n 0, 1) := by decide +kernel
theorem dL_law_250 : decode cL_law 250 = .ok (.iload_n 3, 1) := by decide +kernel
theorem dL_law_251 : decode cL_law 251 = .ok (.iconst 4, 1) := by decide +kernel
theorem dL_law_252 : decode cL_law 252 = .ok (.iadd, 1) := by decide +kernel
theorem dL_law_253 : decode cL_law 253 = .ok (.iaload, 1) := by decide +kernel
theorem dL_law_254 : decode cL_law 254 = .ok (.ifCond .eq 7, 3) := by decide +kernel
theorem dL_law_257 : decode cL_law 257 = .ok (.iconst 1, 1) := by decide +kernel
theorem dL_law_258 : decode cL_law 258 = .ok (.goto 4, 3) := by decide +kernel
theorem dL_law_261 : decode cL_law 261 = .ok (.iconst 0, 1) := by decide +kernel
theorem dL_law_262 : decode cL_law 262 = .ok (.invokevirtual 32, 3) := by decide +kernel
theorem dL_law_265 : decode cL_law 265 = .ok (.if_icmp .eq 334, 3) := by decide +kernel
theorem dL_law_268 : decode cL_law 268 = .ok (.iconst 0, 1) := by decide +kernel
theorem dL_law_269 : decode cL_law 269 = .ok (.ireturn, 1) := by decide +kernel
theorem dL_law_270 : decode cL_law 270 = .ok (.aload_n 1, 1) := by decide +kernel
theorem dL_law_271 : decode cL_law 271 = .ok (.aload_n 0, 1) := by decide +kernel
theorem dL_law_272 : decode cL_law 272 = .ok (.iload_n 3, 1) := by decide +kernel
theorem dL_law_273 : decode cL_law 273 = .ok (.iconst 1, 1) := by decide +kernel
theorem dL_law_274 : decode cL_law 274 = .ok (.iadd, 1) := by decide +kernel
theorem dL_law_275 : decode cL_law 275 = .ok (.iaload, 1) := by decide +kernel
theorem dL_law_276 : decode cL_law 276 = .ok (.aload_n 0, 1) := by decide +kernel
theorem dL_law_277 : decode cL_law 277 = .ok (.iload_n 3, 1) := by decide +kernel
theorem dL_law_278 : decode cL_law 278 = .ok (.iconst 2, 1) := by decide +kernel
theorem dL_law_279 : decode cL_law 279 = .ok (.iadd, 1) := by decide +kernel
theorem dL_law_280 : decode cL_law 280 = .ok (.iaload, 1) := by decide +kernel
theorem dL_law_281 : decode cL_law 281 = .ok (.aload_n 0, 1) := by decide +kernel
theorem dL_law_282 : decode cL_law 282 = .ok (.iload_n 3, 1) := by decide +kernel
theorem dL_law_283 : decode cL_law 283 = .ok (.iconst 3, 1) := by decide +kernel
theorem dL_law_284 : decode cL_law 284 = .ok (.iadd, 1) := by decide +kernel
theorem dL_law_285 : decode cL_law 285 = .ok (.iaload, 1) := by decide +kernel
theorem dL_law_286 : decode cL_law 286 = .ok (.ifCond .eq 7, 3) := by decide +kernel
theorem dL_law_289 : decode cL_law 289 = .ok (.iconst 1, 1) := by decide +kernel
theorem dL_law_290 : decode cL_law 290 = .ok (.goto 4, 3) := by decide +kernel
theorem dL_law_293 : decode cL_law 293 = .ok (.iconst 0, 1) := by decide +kernel
theorem dL_law_294 : decode cL_law 294 = .ok (.aload_n 0, 1) := by decide +kernel
theorem dL_law_295 : decode cL_law 295 = .ok (.iload_n 3, 1) := by decide +kernel
theorem dL_law_296 : decode cL_law 296 = .ok (.iconst 4, 1) := by decide +kernel
theorem dL_law_297 : decode cL_law 297 = .ok (.iadd, 1) := by decide +kernel
theorem dL_law_298 : decode cL_law 298 = .ok (.iaload, 1) := by decide +kernel
theorem dL_law_299 : decode cL_law 299 = .ok (.aload_n 0, 1) := by decide +kernel
theorem dL_law_300 : decode cL_law 300 = .ok (.iload_n 3, 1) := by decide +kernel
theorem dL_law_301 : decode cL_law 301 = .ok (.iconst 5, 1) := by decide +kernel
theorem dL_law_302 : decode cL_law 302 = .ok (.iadd, 1) := by decide +kernel
theorem dL_law_303 : decode cL_law 303 = .ok (.iaload, 1) := by decide +kernel
theorem dL_law_304 : decode cL_law 304 = .ok (.i2l, 1) := by decide +kernel
theorem dL_law_305 : decode cL_law 305 = .ok (.bipush 32, 2) := by decide +kernel
theorem dL_law_307 : decode cL_law 307 = .ok (.lshl, 1) := by decide +kernel
theorem dL_law_308 : decode cL_law 308 = .ok (.aload_n 0, 1) := by decide +kernel
theorem dL_law_309 : decode cL_law 309 = .ok (.iload_n 3, 1) := by decide +kernel
theorem dL_law_310 : decode cL_law 310 = .ok (.bipush 6, 2) := by decide +kernel
theorem dL_law_312 : decode cL_law 312 = .ok (.iadd, 1) := by decide +kernel
theorem dL_law_313 : decode cL_law 313 = .ok (.iaload, 1) := by decide +kernel
theorem dL_law_314 : decode cL_law 314 = .ok (.i2l, 1) := by decide +kernel
theorem dL_law_315 : decode cL_law 315 = .ok (.ldc2_w 33, 3) := by decide +kernel
theorem dL_law_318 : decode cL_law 318 = .ok (.land, 1) := by decide +kernel
theorem dL_law_319 : decode cL_law 319 = .ok (.lor, 1) := by decide +kernel
theorem dL_law_320 : decode cL_law 320 = .ok (.invokevirtual 35, 3) := by decide +kernel
theorem dL_law_323 : decode cL_law 323 = .ok (.aload_n 2, 1) := by decide +kernel
theorem dL_law_324 : decode cL_law 324 = .ok (.aload_n 0, 1) := by decide +kernel
theorem dL_law_325 : decode cL_law 325 = .ok (.iload_n 3, 1) := by decide +kernel
theorem dL_law_326 : decode cL_law 326 = .ok (.iconst 1, 1) := by decide +kernel
theorem dL_law_327 : decode cL_law 327 = .ok (.iadd, 1) := by decide +kernel
theorem dL_law_328 : decode cL_law 328 = .ok (.iaload, 1) := by decide +kernel
theorem dL_law_329 : decode cL_law 329 = .ok (.aload_n 0, 1) := by decide +kernel
theorem dL_law_330 : decode cL_law 330 = .ok (.iload_n 3, 1) := by decide +kernel
theorem dL_law_331 : decode cL_law 331 = .ok (.iconst 2, 1) := by decide +kernel
theorem dL_law_332 : decode cL_law 332 = .ok (.iadd, 1) := by decide +kernel
theorem dL_law_333 : decode cL_law 333 = .ok (.iaload, 1) := by decide +kernel
theorem dL_law_334 : decode cL_law 334 = .ok (.aload_n 0, 1) := by decide +kernel
theorem dL_law_335 : decode cL_law 335 = .ok (.iload_n 3, 1) := by decide +kernel
theorem dL_law_336 : decode cL_law 336 = .ok (.iconst 3, 1) := by decide +kernel
theorem dL_law_337 : decode cL_law 337 = .ok (.iadd, 1) := by decide +kernel
theorem dL_law_338 : decode cL_law 338 = .ok (.iaload, 1) := by decide +kernel
theorem dL_law_339 : decode cL_law 339 = .ok (.ifCond .eq 7, 3) := by decide +kernel
theorem dL_law_342 : decode cL_law 342 = .ok (.iconst 1, 1) := by decide +kernel
theorem dL_law_343 : decode cL_law 343 = .ok (.goto 4, 3) := by decide +kernel
theorem dL_law_346 : decode cL_law 346 = .ok (.iconst 0, 1) := by decide +kernel
theorem dL_law_347 : decode cL_law 347 = .ok (.aload_n 0, 1) := by decide +kernel
theorem dL_law_348 : decode cL_law 348 = .ok (.iload_n 3, 1) := by decide +kernel
theorem dL_law_349 : decode cL_law 349 = .ok (.iconst 4, 1) := by decide +kernel
theorem dL_law_350 : decode cL_law 350 = .ok (.iadd, 1) := by decide +kernel
theorem dL_law_351 : decode cL_law 351 = .ok (.iaload, 1) := by decide +kernel
theorem dL_law_352 : decode cL_law 352 = .ok (.aload_n 0, 1) := by decide +kernel
theorem dL_law_353 : decode cL_law 353 = .ok (.iload_n 3, 1) := by decide +kernel
theorem dL_law_354 : decode cL_law 354 = .ok (.iconst 5, 1) := by decide +kernel
theorem dL_law_355 : decode cL_law 355 = .ok (.iadd, 1) := by decide +kernel
theorem dL_law_356 : decode cL_law 356 = .ok (.iaload, 1) := by decide +kernel
theorem dL_law_357 : decode cL_law 357 = .ok (.i2l, 1) := by decide +kernel
theorem dL_law_358 : decode cL_law 358 = .ok (.bipush 32, 2) := by decide +kernel
theorem dL_law_360 : decode cL_law 360 = .ok (.lshl, 1) := by decide +kernel
theorem dL_law_361 : decode cL_law 361 = .ok (.aload_n 0, 1) := by decide +kernel
theorem dL_law_362 : decode cL_law 362 = .ok (.iload_n 3, 1) := by decide +kernel
theorem dL_law_363 : decode cL_law 363 = .ok (.bipush 6, 2) := by decide +kernel
theorem dL_law_365 : decode cL_law 365 = .ok (.iadd, 1) := by decide +kernel
theorem dL_law_366 : decode cL_law 366 = .ok (.iaload, 1) := by decide +kernel
theorem dL_law_367 : decode cL_law 367 = .ok (.i2l, 1) := by decide +kernel
theorem dL_law_368 : decode cL_law 368 = .ok (.ldc2_w 33, 3) := by decide +kernel
theorem dL_law_371 : decode cL_law 371 = .ok (.land, 1) := by decide +kernel
theorem dL_law_372 : decode cL_law 372 = .ok (.lor, 1) := by decide +kernel
theorem dL_law_373 : decode cL_law 373 = .ok (.invokevirtual 39, 3) := by decide +kernel
theorem dL_law_376 : decode cL_law 376 = .ok (.if_icmp .eq 223, 3) := by decide +kernel
theorem dL_law_379 : decode cL_law 379 = .ok (.iconst 0, 1) := by decide +kernel
theorem dL_law_380 : decode cL_law 380 = .ok (.ireturn, 1) := by decide +kernel
theorem dL_law_381 : decode cL_law 381 = .ok (.aload_n 1, 1) := by decide +kernel
theorem dL_law_382 : decode cL_law 382 = .ok (.invokevirtual 40, 3) := by decide +kernel
theorem dL_law_385 : decode cL_law 385 = .ok (.aload_n 2, 1) := by decide +kernel
end
section
theorem dL_law_386 : decode cL_law 386 = .ok (.invokevirtual 44, 3) := by decide +kernel
theorem dL_law_389 : decode cL_law 389 = .ok (.if_icmp .eq 210, 3) := by decide +kernel
theorem dL_law_392 : decode cL_law 392 = .ok (.iconst 0, 1) := by decide +kernel
theorem dL_law_393 : decode cL_law 393 = .ok (.ireturn, 1) := by decide +kernel
theorem dL_law_394 : decode cL_law 394 = .ok (.aload_n 1, 1) := by decide +kernel
theorem dL_law_395 : decode cL_law 395 = .ok (.invokevirtual 45, 3) := by decide +kernel
theorem dL_law_398 : decode cL_law 398 = .ok (.aload_n 2, 1) := by decide +kernel
theorem dL_law_399 : decode cL_law 399 = .ok (.invokevirtual 49, 3) := by decide +kernel
theorem dL_law_402 : decode cL_law 402 = .ok (.lcmp, 1) := by decide +kernel
theorem dL_law_403 : decode cL_law 403 = .ok (.ifCond .eq 196, 3) := by decide +kernel
theorem dL_law_406 : decode cL_law 406 = .ok (.iconst 0, 1) := by decide +kernel
theorem dL_law_407 : decode cL_law 407 = .ok (.ireturn, 1) := by decide +kernel
theorem dL_law_408 : decode cL_law 408 = .ok (.aload_n 1, 1) := by decide +kernel
theorem dL_law_409 : decode cL_law 409 = .ok (.aload_n 0, 1) := by decide +kernel
theorem dL_law_410 : decode cL_law 410 = .ok (.iload_n 3, 1) := by decide +kernel
theorem dL_law_411 : decode cL_law 411 = .ok (.iconst 1, 1) := by decide +kernel
theorem dL_law_412 : decode cL_law 412 = .ok (.iadd, 1) := by decide +kernel
theorem dL_law_413 : decode cL_law 413 = .ok (.iaload, 1) := by decide +kernel
theorem dL_law_414 : decode cL_law 414 = .ok (.invokevirtual 50, 3) := by decide +kernel
theorem dL_law_417 : decode cL_law 417 = .ok (.aload_n 2, 1) := by decide +kernel
theorem dL_law_418 : decode cL_law 418 = .ok (.aload_n 0, 1) := by decide +kernel
theorem dL_law_419 : decode cL_law 419 = .ok (.iload_n 3, 1) := by decide +kernel
theorem dL_law_420 : decode cL_law 420 = .ok (.iconst 1, 1) := by decide +kernel
theorem dL_law_421 : decode cL_law 421 = .ok (.iadd, 1) := by decide +kernel
theorem dL_law_422 : decode cL_law 422 = .ok (.iaload, 1) := by decide +kernel
theorem dL_law_423 : decode cL_law 423 = .ok (.invokevirtual 54, 3) := by decide +kernel
theorem dL_law_426 : decode cL_law 426 = .ok (.if_icmp .eq 173, 3) := by decide +kernel
theorem dL_law_429 : decode cL_law 429 = .ok (.iconst 0, 1) := by decide +kernel
theorem dL_law_430 : decode cL_law 430 = .ok (.ireturn, 1) := by decide +kernel
theorem dL_law_431 : decode cL_law 431 = .ok (.aload_n 1, 1) := by decide +kernel
theorem dL_law_432 : decode cL_law 432 = .ok (.aload_n 0, 1) := by decide +kernel
theorem dL_law_433 : decode cL_law 433 = .ok (.iload_n 3, 1) := by decide +kernel
theorem dL_law_434 : decode cL_law 434 = .ok (.iconst 1, 1) := by decide +kernel
theorem dL_law_435 : decode cL_law 435 = .ok (.iadd, 1) := by decide +kernel
theorem dL_law_436 : decode cL_law 436 = .ok (.iaload, 1) := by decide +kernel
theorem dL_law_437 : decode cL_law 437 = .ok (.invokevirtual 55, 3) := by decide +kernel
theorem dL_law_440 : decode cL_law 440 = .ok (.aload_n 2, 1) := by decide +kernel
theorem dL_law_441 : decode cL_law 441 = .ok (.aload_n 0, 1) := by decide +kernel
theorem dL_law_442 : decode cL_law 442 = .ok (.iload_n 3, 1) := by decide +kernel
theorem dL_law_443 : decode cL_law 443 = .ok (.iconst 1, 1) := by decide +kernel
theorem dL_law_444 : decode cL_law 444 = .ok (.iadd, 1) := by decide +kernel
theorem dL_law_445 : decode cL_law 445 = .ok (.iaload, 1) := by decide +kernel
theorem dL_law_446 : decode cL_law 446 = .ok (.invokevirtual 58, 3) := by decide +kernel
theorem dL_law_449 : decode cL_law 449 = .ok (.if_icmp .eq 150, 3) := by decide +kernel
theorem dL_law_452 : decode cL_law 452 = .ok (.iconst 0, 1) := by decide +kernel
theorem dL_law_453 : decode cL_law 453 = .ok (.ireturn, 1) := by decide +kernel
theorem dL_law_454 : decode cL_law 454 = .ok (.aload_n 1, 1) := by decide +kernel
theorem dL_law_455 : decode cL_law 455 = .ok (.aload_n 0, 1) := by decide +kernel
theorem dL_law_456 : decode cL_law 456 = .ok (.iload_n 3, 1) := by decide +kernel
theorem dL_law_457 : decode cL_law 457 = .ok (.iconst 1, 1) := by decide +kernel
theorem dL_law_458 : decode cL_law 458 = .ok (.iadd, 1) := by decide +kernel
theorem dL_law_459 : decode cL_law 459 = .ok (.iaload, 1) := by decide +kernel
theorem dL_law_460 : decode cL_law 460 = .ok (.aload_n 0, 1) := by decide +kernel
theorem dL_law_461 : decode cL_law 461 = .ok (.iload_n 3, 1) := by decide +kernel
theorem dL_law_462 : decode cL_law 462 = .ok (.iconst 2, 1) := by decide +kernel
theorem dL_law_463 : decode cL_law 463 = .ok (.iadd, 1) := by decide +kernel
theorem dL_law_464 : decode cL_law 464 = .ok (.iaload, 1) := by decide +kernel
theorem dL_law_465 : decode cL_law 465 = .ok (.invokevirtual 59, 3) := by decide +kernel
theorem dL_law_468 : decode cL_law 468 = .ok (.aload_n 2, 1) := by decide +kernel
theorem dL_law_469 : decode cL_law 469 = .ok (.aload_n 0, 1) := by decide +kernel
theorem dL_law_470 : decode cL_law 470 = .ok (.iload_n 3, 1) := by decide +kernel
theorem dL_law_471 : decode cL_law 471 = .ok (.iconst 1, 1) := by decide +kernel
theorem dL_law_472 : decode cL_law 472 = .ok (.iadd, 1) := by decide +kernel
theorem dL_law_473 : decode cL_law 473 = .ok (.iaload, 1) := by decide +kernel
theorem dL_law_474 : decode cL_law 474 = .ok (.aload_n 0, 1) := by decide +kernel
theorem dL_law_475 : decode cL_law 475 = .ok (.iload_n 3, 1) := by decide +kernel
theorem dL_law_476 : decode cL_law 476 = .ok (.iconst 2, 1) := by decide +kernel
theorem dL_law_477 : decode cL_law 477 = .ok (.iadd, 1) := by decide +kernel
theorem dL_law_478 : decode cL_law 478 = .ok (.iaload, 1) := by decide +kernel
theorem dL_law_479 : decode cL_law 479 = .ok (.invokevirtual 62, 3) := by decide +kernel
theorem dL_law_482 : decode cL_law 482 = .ok (.if_icmp .eq 117, 3) := by decide +kernel
theorem dL_law_485 : decode cL_law 485 = .ok (.iconst 0, 1) := by decide +kernel
theorem dL_law_486 : decode cL_law 486 = .ok (.ireturn, 1) := by decide +kernel
theorem dL_law_487 : decode cL_law 487 = .ok (.aload_n 1, 1) := by decide +kernel
theorem dL_law_488 : decode cL_law 488 = .ok (.aload_n 0, 1) := by decide +kernel
theorem dL_law_489 : decode cL_law 489 = .ok (.iload_n 3, 1) := by decide +kernel
theorem dL_law_490 : decode cL_law 490 = .ok (.iconst 1, 1) := by decide +kernel
theorem dL_law_491 : decode cL_law 491 = .ok (.iadd, 1) := by decide +kernel
theorem dL_law_492 : decode cL_law 492 = .ok (.iaload, 1) := by decide +kernel
theorem dL_law_493 : decode cL_law 493 = .ok (.aload_n 0, 1) := by decide +kernel
theorem dL_law_494 : decode cL_law 494 = .ok (.iload_n 3, 1) := by decide +kernel
theorem dL_law_495 : decode cL_law 495 = .ok (.iconst 2, 1) := by decide +kernel
theorem dL_law_496 : decode cL_law 496 = .ok (.iadd, 1) := by decide +kernel
theorem dL_law_497 : decode cL_law 497 = .ok (.iaload, 1) := by decide +kernel
theorem dL_law_498 : decode cL_law 498 = .ok (.aload_n 0, 1) := by decide +kernel
theorem dL_law_499 : decode cL_law 499 = .ok (.iload_n 3, 1) := by decide +kernel
theorem dL_law_500 : decode cL_law 500 = .ok (.iconst 3, 1) := by decide +kernel
theorem dL_law_501 : decode cL_law 501 = .ok (.iadd, 1) := by decide +kernel
theorem dL_law_502 : decode cL_law 502 = .ok (.iaload, 1) := by decide +kernel
theorem dL_law_503 : decode cL_law 503 = .ok (.ifCond .eq 7, 3) := by decide +kernel
theorem dL_law_506 : decode cL_law 506 = .ok (.iconst 1, 1) := by decide +kernel
theorem dL_law_507 : decode cL_law 507 = .ok (.goto 4, 3) := by decide +kernel
theorem dL_law_510 : decode cL_law 510 = .ok (.iconst 0, 1) := by decide +kernel
theorem dL_law_511 : decode cL_law 511 = .ok (.invokevirtual 63, 3) := by decide +kernel
theorem dL_law_514 : decode cL_law 514 = .ok (.aload_n 2, 1) := by decide +kernel
theorem dL_law_515 : decode cL_law 515 = .ok (.aload_n 0, 1) := by decide +kernel
theorem dL_law_516 : decode cL_law 516 = .ok (.iload_n 3, 1) := by decide +kernel
theorem dL_law_517 : decode cL_law 517 = .ok (.iconst 1, 1) := by decide +kernel
theorem dL_law_518 : decode cL_law 518 = .ok (.iadd, 1) := by decide +kernel
theorem dL_law_519 : decode cL_law 519 = .ok (.iaload, 1) := by decide +kernel
theorem dL_law_520 : decode cL_law 520 = .ok (.aload_n 0, 1) := by decide +kernel
theorem dL_law_521 : decode cL_law 521 = .ok (.iload_n 3, 1) := by decide +kernel
theorem dL_law_522 : decode cL_law 522 = .ok (.iconst 2, 1) := by decide +kernel
theorem dL_law_523 : decode cL_law 523 = .ok (.iadd, 1) := by decide +kernel
theorem dL_law_524 : decode cL_law 524 = .ok (.iaload, 1) := by decide +kernel
theorem dL_law_525 : decode cL_law 525 = .ok (.aload_n 0, 1) := by decide +kernel
theorem dL_law_526 : decode cL_law 526 = .ok (.iload_n 3, 1) := by decide +kernel
theorem dL_law_527 : decode cL_law 527 = .ok (.iconst 3, 1) := by decide +kernel
theorem dL_law_528 : decode cL_law 528 = .ok (.iadd, 1) := by decide +kernel
theorem dL_law_529 : decode cL_law 529 = .ok (.iaload, 1) := by decide +kernel
theorem dL_law_530 : decode cL_law 530 = .ok (.ifCond .eq 7, 3) := by decide +kernel
theorem dL_law_533 : decode cL_law 533 = .ok (.iconst 1, 1) := by decide +kernel
theorem dL_law_534 : decode cL_law 534 = .ok (.goto 4, 3) := by decide +kernel
theorem dL_law_537 : decode cL_law 537 = .ok (.iconst 0, 1) := by decide +kernel
theorem dL_law_538 : decode cL_law 538 = .ok (.invokevirtual 67, 3) := by decide +kernel
theorem dL_law_541 : decode cL_law 541 = .ok (.if_icmp .eq 58, 3) := by decide +kernel
theorem dL_law_544 : decode cL_law 544 = .ok (.iconst 0, 1) := by decide +kernel
theorem dL_law_545 : decode cL_law 545 = .ok (.ireturn, 1) := by decide +kernel
theorem dL_law_546 : decode cL_law 546 = .ok (.aload_n 1, 1) := by decide +kernel
theorem dL_law_547 : decode cL_law 547 = .ok (.aload_n 0, 1) := by decide +kernel
theorem dL_law_548 : decode cL_law 548 = .ok (.iload_n 3, 1) := by decide +kernel
theorem dL_law_549 : decode cL_law 549 = .ok (.iconst 1, 1) := by decide +kernel
theorem dL_law_550 : decode cL_law 550 = .ok (.iadd, 1) := by decide +kernel
theorem dL_law_551 : decode cL_law 551 = .ok (.iaload, 1) := by decide +kernel
theorem dL_law_552 : decode cL_law 552 = .ok (.aload_n 0, 1) := by decide +kernel
theorem dL_law_553 : decode cL_law 553 = .ok (.iload_n 3, 1) := by decide +kernel
theorem dL_law_554 : decode cL_law 554 = .ok (.iconst 2, 1) := by decide +kernel
theorem dL_law_555 : decode cL_law 555 = .ok (.iadd, 1) := by decide +kernel
theorem dL_law_556 : decode cL_law 556 = .ok (.iaload, 1) := by decide +kernel
theorem dL_law_557 : decode cL_law 557 = .ok (.aload_n 0, 1) := by decide +kernel
theorem dL_law_558 : decode cL_law 558 = .ok (.iload_n 3, 1) := by decide +kernel
theorem dL_law_559 : decode cL_law 559 = .ok (.iconst 3, 1) := by decide +kernel
theorem dL_law_560 : decode cL_law 560 = .ok (.iadd, 1) := by decide +kernel
theorem dL_law_561 : decode cL_law 561 = .ok (.iaload, 1) := by decide +kernel
theorem dL_law_562 : decode cL_law 562 = .ok (.aload_n 0, 1) := by decide +kernel
theorem dL_law_563 : decode cL_law 563 = .ok (.iload_n 3, 1) := by decide +kernel
theorem dL_law_564 : decode cL_law 564 = .ok (.iconst 4, 1) := by decide +kernel
theorem dL_law_565 : decode cL_law 565 = .ok (.iadd, 1) := by decide +kernel
theorem dL_law_566 : decode cL_law 566 = .ok (.iaload, 1) := by decide +kernel
theorem dL_law_567 : decode cL_law 567 = .ok (.invokevirtual 68, 3) := by decide +kernel
theorem dL_law_570 : decode cL_law 570 = .ok (.aload_n 2, 1) := by decide +kernel
theorem dL_law_571 : decode cL_law 571 = .ok (.aload_n 0, 1) := by decide +kernel
theorem dL_law_572 : decode cL_law 572 = .ok (.iload_n 3, 1) := by decide +kernel
theorem dL_law_573 : decode cL_law 573 = .ok (.iconst 1, 1) := by decide +kernel
theorem dL_law_574 : decode cL_law 574 = .ok (.iadd, 1) := by decide +kernel
theorem dL_law_575 : decode cL_law 575 = .ok (.iaload, 1) := by decide +kernel
theorem dL_law_576 : decode cL_law 576 = .ok (.aload_n 0, 1) := by decide +kernel
theorem dL_law_577 : decode cL_law 577 = .ok (.iload_n 3, 1) := by decide +kernel
theorem dL_law_578 : decode cL_law 578 = .ok (.iconst 2, 1) := by decide +kernel
theorem dL_law_579 : decode cL_law 579 = .ok (.iadd, 1) := by decide +kernel
theorem dL_law_580 : decode cL_law 580 = .ok (.iaload, 1) := by decide +kernel
theorem dL_law_581 : decode cL_law 581 = .ok (.aload_n 0, 1) := by decide +kernel
theorem dL_law_582 : decode cL_law 582 = .ok (.iload_n 3, 1) := by decide +kernel
theorem dL_law_583 : decode cL_law 583 = .ok (.iconst 3, 1) := by decide +kernel
theorem dL_law_584 : decode cL_law 584 = .ok (.iadd, 1) := by decide +kernel
theorem dL_law_585 : decode cL_law 585 = .ok (.iaload, 1) := by decide +kernel
theorem dL_law_586 : decode cL_law 586 = .ok (.aload_n 0, 1) := by decide +kernel
theorem dL_law_587 : decode cL_law 587 = .ok (.iload_n 3, 1) := by decide +kernel
theorem dL_law_588 : decode cL_law 588 = .ok (.iconst 4, 1) := by decide +kernel
theorem dL_law_589 : decode cL_law 589 = .ok (.iadd, 1) := by decide +kernel
theorem dL_law_590 : decode cL_law 590 = .ok (.iaload, 1) := by decide +kernel
theorem dL_law_591 : decode cL_law 591 = .ok (.invokevirtual 72, 3) := by decide +kernel
theorem dL_law_594 : decode cL_law 594 = .ok (.if_icmp .eq 5, 3) := by decide +kernel
theorem dL_law_597 : decode cL_law 597 = .ok (.iconst 0, 1) := by decide +kernel
theorem dL_law_598 : decode cL_law 598 = .ok (.ireturn, 1) := by decide +kernel
theorem dL_law_599 : decode cL_law 599 = .ok (.iinc 3 7, 3) := by decide +kernel
theorem dL_law_602 : decode cL_law 602 = .ok (.goto (-584), 3) := by decide +kernel
theorem dL_law_605 : decode cL_law 605 = .ok (.iconst 1, 1) := by decide +kernel
theorem dL_law_606 : decode cL_law 606 = .ok (.ireturn, 1) := by decide +kernel
abbrev vwCl : List vw_C := [(RX0, TX0, 8), (RX1, TX1, 13)]
end
section
/-! the reference's names, decode rows and words: written by program out of the listing, as the printed names are for the class -/
abbrev cX1_isPlain : ByteArray := prog_3_method_4_code
def yX1_isPlain : MethodName := ⟨RX1, "isPlain", "(I)Z"⟩
theorem dX1_isPlain_0 : decode cX1_isPlain 0 = .ok (.iload_n 0, 1) := by decide +kernel
theorem dX1_isPlain_1 : decode cX1_isPlain 1 = .ok (.iconst 1, 1) := by decide +kernel
theorem dX1_isPlain_2 : decode cX1_isPlain 2 = .ok (.if_icmp .lt 13, 3) := by decide +kernel
theorem dX1_isPlain_5 : decode cX1_isPlain 5 = .ok (.iload_n 0, 1) := by decide +kernel
theorem dX1_isPlain_6 : decode cX1_isPlain 6 = .ok (.bipush 6, 2) := by decide +kernel
theorem dX1_isPlain_8 : decode cX1_isPlain 8 = .ok (.if_icmp .gt 7, 3) := by decide +kernel
theorem dX1_isPlain_11 : decode cX1_isPlain 11 = .ok (.iconst 1, 1) := by decide +kernel
theorem dX1_isPlain_12 : decode cX1_isPlain 12 = .ok (.goto 4, 3) := by decide +kernel
theorem dX1_isPlain_15 : decode cX1_isPlain 15 = .ok (.iconst 0, 1) := by decide +kernel
theorem dX1_isPlain_16 : decode cX1_isPlain 16 = .ok (.ireturn, 1) := by decide +kernel
abbrev cX1_isReference : ByteArray := prog_3_method_5_code
def yX1_isReference : MethodName := ⟨RX1, "isReference", "(I)Z"⟩
theorem dX1_isReference_0 : decode cX1_isReference 0 = .ok (.iload_n 0, 1) := by decide +kernel
theorem dX1_isReference_1 : decode cX1_isReference 1 = .ok (.bipush 7, 2) := by decide +kernel
theorem dX1_isReference_3 : decode cX1_isReference 3 = .ok (.if_icmp .lt 7, 3) := by decide +kernel
theorem dX1_isReference_6 : decode cX1_isReference 6 = .ok (.iconst 1, 1) := by decide +kernel
theorem dX1_isReference_7 : decode cX1_isReference 7 = .ok (.goto 4, 3) := by decide +kernel
theorem dX1_isReference_10 : decode cX1_isReference 10 = .ok (.iconst 0, 1) := by decide +kernel
theorem dX1_isReference_11 : decode cX1_isReference 11 = .ok (.ireturn, 1) := by decide +kernel
abbrev cX1_isBox : ByteArray := prog_3_method_6_code
def yX1_isBox : MethodName := ⟨RX1, "isBox", "(I)Z"⟩
theorem dX1_isBox_0 : decode cX1_isBox 0 = .ok (.iload_n 0, 1) := by decide +kernel
theorem dX1_isBox_1 : decode cX1_isBox 1 = .ok (.bipush 8, 2) := by decide +kernel
theorem dX1_isBox_3 : decode cX1_isBox 3 = .ok (.if_icmp .le 13, 3) := by decide +kernel
theorem dX1_isBox_6 : decode cX1_isBox 6 = .ok (.iload_n 0, 1) := by decide +kernel
theorem dX1_isBox_7 : decode cX1_isBox 7 = .ok (.bipush 15, 2) := by decide +kernel
theorem dX1_isBox_9 : decode cX1_isBox 9 = .ok (.if_icmp .ge 7, 3) := by decide +kernel
theorem dX1_isBox_12 : decode cX1_isBox 12 = .ok (.iconst 1, 1) := by decide +kernel
theorem dX1_isBox_13 : decode cX1_isBox 13 = .ok (.goto 4, 3) := by decide +kernel
theorem dX1_isBox_16 : decode cX1_isBox 16 = .ok (.iconst 0, 1) := by decide +kernel
theorem dX1_isBox_17 : decode cX1_isBox 17 = .ok (.ireturn, 1) := by decide +kernel
abbrev cX1_isBelow : ByteArray := prog_3_method_7_code
def yX1_isBelow : MethodName := ⟨RX1, "isBelow", "(II)Z"⟩
theorem dX1_isBelow_0 : decode cX1_isBelow 0 = .ok (.iload_n 1, 1) := by decide +kernel
theorem dX1_isBelow_1 : decode cX1_isBelow 1 = .ok (.iload_n 2, 1) := by decide +kernel
theorem dX1_isBelow_2 : decode cX1_isBelow 2 = .ok (.if_icmp .ne 5, 3) := by decide +kernel
theorem dX1_isBelow_5 : decode cX1_isBelow 5 = .ok (.iconst 1, 1) := by decide +kernel
theorem dX1_isBelow_6 : decode cX1_isBelow 6 = .ok (.ireturn, 1) := by decide +kernel
theorem dX1_isBelow_7 : decode cX1_isBelow 7 = .ok (.iload_n 1, 1) := by decide +kernel
theorem dX1_isBelow_8 : decode cX1_isBelow 8 = .ok (.invokestatic 32, 3) := by decide +kernel
theorem dX1_isBelow_11 : decode cX1_isBelow 11 = .ok (.ifCond .eq 10, 3) := by decide +kernel
theorem dX1_isBelow_14 : decode cX1_isBelow 14 = .ok (.iload_n 2, 1) := by decide +kernel
theorem dX1_isBelow_15 : decode cX1_isBelow 15 = .ok (.invokestatic 32, 3) := by decide +kernel
theorem dX1_isBelow_18 : decode cX1_isBelow 18 = .ok (.ifCond .ne 5, 3) := by decide +kernel
theorem dX1_isBelow_21 : decode cX1_isBelow 21 = .ok (.iconst 0, 1) := by decide +kernel
theorem dX1_isBelow_22 : decode cX1_isBelow 22 = .ok (.ireturn, 1) := by decide +kernel
theorem dX1_isBelow_23 : decode cX1_isBelow 23 = .ok (.iload_n 2, 1) := by decide +kernel
theorem dX1_isBelow_24 : decode cX1_isBelow 24 = .ok (.bipush 7, 2) := by decide +kernel
theorem dX1_isBelow_26 : decode cX1_isBelow 26 = .ok (.if_icmp .ne 5, 3) := by decide +kernel
theorem dX1_isBelow_29 : decode cX1_isBelow 29 = .ok (.iconst 1, 1) := by decide +kernel
theorem dX1_isBelow_30 : decode cX1_isBelow 30 = .ok (.ireturn, 1) := by decide +kernel
theorem dX1_isBelow_31 : decode cX1_isBelow 31 = .ok (.iload_n 2, 1) := by decide +kernel
theorem dX1_isBelow_32 : decode cX1_isBelow 32 = .ok (.bipush 8, 2) := by decide +kernel
theorem dX1_isBelow_34 : decode cX1_isBelow 34 = .ok (.if_icmp .ne 33, 3) := by decide +kernel
theorem dX1_isBelow_37 : decode cX1_isBelow 37 = .ok (.iload_n 1, 1) := by decide +kernel
theorem dX1_isBelow_38 : decode cX1_isBelow 38 = .ok (.bipush 10, 2) := by decide +kernel
theorem dX1_isBelow_40 : decode cX1_isBelow 40 = .ok (.if_icmp .eq 21, 3) := by decide +kernel
theorem dX1_isBelow_43 : decode cX1_isBelow 43 = .ok (.iload_n 1, 1) := by decide +kernel
theorem dX1_isBelow_44 : decode cX1_isBelow 44 = .ok (.bipush 11, 2) := by decide +kernel
theorem dX1_isBelow_46 : decode cX1_isBelow 46 = .ok (.if_icmp .eq 15, 3) := by decide +kernel
theorem dX1_isBelow_49 : decode cX1_isBelow 49 = .ok (.iload_n 1, 1) := by decide +kernel
theorem dX1_isBelow_50 : decode cX1_isBelow 50 = .ok (.bipush 13, 2) := by decide +kernel
theorem dX1_isBelow_52 : decode cX1_isBelow 52 = .ok (.if_icmp .eq 9, 3) := by decide +kernel
theorem dX1_isBelow_55 : decode cX1_isBelow 55 = .ok (.iload_n 1, 1) := by decide +kernel
theorem dX1_isBelow_56 : decode cX1_isBelow 56 = .ok (.bipush 14, 2) := by decide +kernel
theorem dX1_isBelow_58 : decode cX1_isBelow 58 = .ok (.if_icmp .ne 7, 3) := by decide +kernel
theorem dX1_isBelow_61 : decode cX1_isBelow 61 = .ok (.iconst 1, 1) := by decide +kernel
theorem dX1_isBelow_62 : decode cX1_isBelow 62 = .ok (.goto 4, 3) := by decide +kernel
theorem dX1_isBelow_65 : decode cX1_isBelow 65 = .ok (.iconst 0, 1) := by decide +kernel
theorem dX1_isBelow_66 : decode cX1_isBelow 66 = .ok (.ireturn, 1) := by decide +kernel
theorem dX1_isBelow_67 : decode cX1_isBelow 67 = .ok (.iload_n 1, 1) := by decide +kernel
theorem dX1_isBelow_68 : decode cX1_isBelow 68 = .ok (.istore_n 3, 1) := by decide +kernel
theorem dX1_isBelow_69 : decode cX1_isBelow 69 = .ok (.iload_n 3, 1) := by decide +kernel
theorem dX1_isBelow_70 : decode cX1_isBelow 70 = .ok (.bipush 20, 2) := by decide +kernel
theorem dX1_isBelow_72 : decode cX1_isBelow 72 = .ok (.if_icmp .lt 20, 3) := by decide +kernel
theorem dX1_isBelow_75 : decode cX1_isBelow 75 = .ok (.aload_n 0, 1) := by decide +kernel
theorem dX1_isBelow_76 : decode cX1_isBelow 76 = .ok (.getfield 7, 3) := by decide +kernel
theorem dX1_isBelow_79 : decode cX1_isBelow 79 = .ok (.iload_n 3, 1) := by decide +kernel
theorem dX1_isBelow_80 : decode cX1_isBelow 80 = .ok (.bipush 20, 2) := by decide +kernel
theorem dX1_isBelow_82 : decode cX1_isBelow 82 = .ok (.isub, 1) := by decide +kernel
theorem dX1_isBelow_83 : decode cX1_isBelow 83 = .ok (.iaload, 1) := by decide +kernel
theorem dX1_isBelow_84 : decode cX1_isBelow 84 = .ok (.istore_n 3, 1) := by decide +kernel
theorem dX1_isBelow_85 : decode cX1_isBelow 85 = .ok (.iload_n 3, 1) := by decide +kernel
theorem dX1_isBelow_86 : decode cX1_isBelow 86 = .ok (.iload_n 2, 1) := by decide +kernel
theorem dX1_isBelow_87 : decode cX1_isBelow 87 = .ok (.if_icmp .ne (-18), 3) := by decide +kernel
theorem dX1_isBelow_90 : decode cX1_isBelow 90 = .ok (.iconst 1, 1) := by decide +kernel
theorem dX1_isBelow_91 : decode cX1_isBelow 91 = .ok (.ireturn, 1) := by decide +kernel
theorem dX1_isBelow_92 : decode cX1_isBelow 92 = .ok (.iconst 0, 1) := by decide +kernel
theorem dX1_isBelow_93 : decode cX1_isBelow 93 = .ok (.ireturn, 1) := by decide +kernel
abbrev cX1_widens : ByteArray := prog_3_method_8_code
def yX1_widens : MethodName := ⟨RX1, "widens", "(II)Z"⟩
theorem dX1_widens_0 : decode cX1_widens 0 = .ok (.iload_n 0, 1) := by decide +kernel
theorem dX1_widens_1 : decode cX1_widens 1 = .ok (.iload_n 1, 1) := by decide +kernel
theorem dX1_widens_2 : decode cX1_widens 2 = .ok (.if_icmp .ne 5, 3) := by decide +kernel
theorem dX1_widens_5 : decode cX1_widens 5 = .ok (.iconst 1, 1) := by decide +kernel
theorem dX1_widens_6 : decode cX1_widens 6 = .ok (.ireturn, 1) := by decide +kernel
theorem dX1_widens_7 : decode cX1_widens 7 = .ok (.iload_n 0, 1) := by decide +kernel
theorem dX1_widens_8 : decode cX1_widens 8 = .ok (.tableswitch 100 2 5 #[32, 54, 71, 88], 32) := by decide +kernel
theorem dX1_widens_40 : decode cX1_widens 40 = .ok (.iload_n 1, 1) := by decide +kernel
theorem dX1_widens_41 : decode cX1_widens 41 = .ok (.iconst 3, 1) := by decide +kernel
theorem dX1_widens_42 : decode cX1_widens 42 = .ok (.if_icmp .eq 14, 3) := by decide +kernel
theorem dX1_widens_45 : decode cX1_widens 45 = .ok (.iload_n 1, 1) := by decide +kernel
theorem dX1_widens_46 : decode cX1_widens 46 = .ok (.iconst 5, 1) := by decide +kernel
theorem dX1_widens_47 : decode cX1_widens 47 = .ok (.if_icmp .eq 9, 3) := by decide +kernel
theorem dX1_widens_50 : decode cX1_widens 50 = .ok (.iload_n 1, 1) := by decide +kernel
theorem dX1_widens_51 : decode cX1_widens 51 = .ok (.bipush 6, 2) := by decide +kernel
theorem dX1_widens_53 : decode cX1_widens 53 = .ok (.if_icmp .ne 7, 3) := by decide +kernel
theorem dX1_widens_56 : decode cX1_widens 56 = .ok (.iconst 1, 1) := by decide +kernel
theorem dX1_widens_57 : decode cX1_widens 57 = .ok (.goto 4, 3) := by decide +kernel
theorem dX1_widens_60 : decode cX1_widens 60 = .ok (.iconst 0, 1) := by decide +kernel
theorem dX1_widens_61 : decode cX1_widens 61 = .ok (.ireturn, 1) := by decide +kernel
theorem dX1_widens_62 : decode cX1_widens 62 = .ok (.iload_n 1, 1) := by decide +kernel
theorem dX1_widens_63 : decode cX1_widens 63 = .ok (.iconst 5, 1) := by decide +kernel
theorem dX1_widens_64 : decode cX1_widens 64 = .ok (.if_icmp .eq 9, 3) := by decide +kernel
theorem dX1_widens_67 : decode cX1_widens 67 = .ok (.iload_n 1, 1) := by decide +kernel
theorem dX1_widens_68 : decode cX1_widens 68 = .ok (.bipush 6, 2) := by decide +kernel
theorem dX1_widens_70 : decode cX1_widens 70 = .ok (.if_icmp .ne 7, 3) := by decide +kernel
theorem dX1_widens_73 : decode cX1_widens 73 = .ok (.iconst 1, 1) := by decide +kernel
theorem dX1_widens_74 : decode cX1_widens 74 = .ok (.goto 4, 3) := by decide +kernel
theorem dX1_widens_77 : decode cX1_widens 77 = .ok (.iconst 0, 1) := by decide +kernel
theorem dX1_widens_78 : decode cX1_widens 78 = .ok (.ireturn, 1) := by decide +kernel
theorem dX1_widens_79 : decode cX1_widens 79 = .ok (.iload_n 1, 1) := by decide +kernel
theorem dX1_widens_80 : decode cX1_widens 80 = .ok (.iconst 5, 1) := by decide +kernel
theorem dX1_widens_81 : decode cX1_widens 81 = .ok (.if_icmp .eq 9, 3) := by decide +kernel
theorem dX1_widens_84 : decode cX1_widens 84 = .ok (.iload_n 1, 1) := by decide +kernel
theorem dX1_widens_85 : decode cX1_widens 85 = .ok (.bipush 6, 2) := by decide +kernel
theorem dX1_widens_87 : decode cX1_widens 87 = .ok (.if_icmp .ne 7, 3) := by decide +kernel
theorem dX1_widens_90 : decode cX1_widens 90 = .ok (.iconst 1, 1) := by decide +kernel
theorem dX1_widens_91 : decode cX1_widens 91 = .ok (.goto 4, 3) := by decide +kernel
theorem dX1_widens_94 : decode cX1_widens 94 = .ok (.iconst 0, 1) := by decide +kernel
theorem dX1_widens_95 : decode cX1_widens 95 = .ok (.ireturn, 1) := by decide +kernel
theorem dX1_widens_96 : decode cX1_widens 96 = .ok (.iload_n 1, 1) := by decide +kernel
theorem dX1_widens_97 : decode cX1_widens 97 = .ok (.bipush 6, 2) := by decide +kernel
theorem dX1_widens_99 : decode cX1_widens 99 = .ok (.if_icmp .ne 7, 3) := by decide +kernel
theorem dX1_widens_102 : decode cX1_widens 102 = .ok (.iconst 1, 1) := by decide +kernel
theorem dX1_widens_103 : decode cX1_widens 103 = .ok (.goto 4, 3) := by decide +kernel
theorem dX1_widens_106 : decode cX1_widens 106 = .ok (.iconst 0, 1) := by decide +kernel
theorem dX1_widens_107 : decode cX1_widens 107 = .ok (.ireturn, 1) := by decide +kernel
theorem dX1_widens_108 : decode cX1_widens 108 = .ok (.iconst 0, 1) := by decide +kernel
theorem dX1_widens_109 : decode cX1_widens 109 = .ok (.ireturn, 1) := by decide +kernel
abbrev cX1_mayPass : ByteArray := prog_3_method_9_code
def yX1_mayPass : MethodName := ⟨RX1, "mayPass", "(IIZZ)Z"⟩
theorem dX1_mayPass_0 : decode cX1_mayPass 0 = .ok (.iload_n 1, 1) := by decide +kernel
theorem dX1_mayPass_1 : decode cX1_mayPass 1 = .ok (.iload_n 2, 1) := by decide +kernel
theorem dX1_mayPass_2 : decode cX1_mayPass 2 = .ok (.if_icmp .ne 5, 3) := by decide +kernel
theorem dX1_mayPass_5 : decode cX1_mayPass 5 = .ok (.iconst 1, 1) := by decide +kernel
theorem dX1_mayPass_6 : decode cX1_mayPass 6 = .ok (.ireturn, 1) := by decide +kernel
theorem dX1_mayPass_7 : decode cX1_mayPass 7 = .ok (.iload_n 1, 1) := by decide +kernel
theorem dX1_mayPass_8 : decode cX1_mayPass 8 = .ok (.ifCond .eq 7, 3) := by decide +kernel
theorem dX1_mayPass_11 : decode cX1_mayPass 11 = .ok (.iload_n 2, 1) := by decide +kernel
theorem dX1_mayPass_12 : decode cX1_mayPass 12 = .ok (.ifCond .ne 6, 3) := by decide +kernel
theorem dX1_mayPass_15 : decode cX1_mayPass 15 = .ok (.iload 4, 2) := by decide +kernel
theorem dX1_mayPass_17 : decode cX1_mayPass 17 = .ok (.ireturn, 1) := by decide +kernel
theorem dX1_mayPass_18 : decode cX1_mayPass 18 = .ok (.iload_n 1, 1) := by decide +kernel
theorem dX1_mayPass_19 : decode cX1_mayPass 19 = .ok (.invokestatic 36, 3) := by decide +kernel
theorem dX1_mayPass_22 : decode cX1_mayPass 22 = .ok (.ifCond .eq 28, 3) := by decide +kernel
theorem dX1_mayPass_25 : decode cX1_mayPass 25 = .ok (.iload_n 2, 1) := by decide +kernel
theorem dX1_mayPass_26 : decode cX1_mayPass 26 = .ok (.invokestatic 36, 3) := by decide +kernel
theorem dX1_mayPass_29 : decode cX1_mayPass 29 = .ok (.ifCond .eq 21, 3) := by decide +kernel
theorem dX1_mayPass_32 : decode cX1_mayPass 32 = .ok (.iload_n 3, 1) := by decide +kernel
theorem dX1_mayPass_33 : decode cX1_mayPass 33 = .ok (.ifCond .ne 11, 3) := by decide +kernel
theorem dX1_mayPass_36 : decode cX1_mayPass 36 = .ok (.iload_n 1, 1) := by decide +kernel
theorem dX1_mayPass_37 : decode cX1_mayPass 37 = .ok (.iload_n 2, 1) := by decide +kernel
theorem dX1_mayPass_38 : decode cX1_mayPass 38 = .ok (.invokestatic 39, 3) := by decide +kernel
theorem dX1_mayPass_41 : decode cX1_mayPass 41 = .ok (.ifCond .eq 7, 3) := by decide +kernel
theorem dX1_mayPass_44 : decode cX1_mayPass 44 = .ok (.iconst 1, 1) := by decide +kernel
theorem dX1_mayPass_45 : decode cX1_mayPass 45 = .ok (.goto 4, 3) := by decide +kernel
theorem dX1_mayPass_48 : decode cX1_mayPass 48 = .ok (.iconst 0, 1) := by decide +kernel
theorem dX1_mayPass_49 : decode cX1_mayPass 49 = .ok (.ireturn, 1) := by decide +kernel
theorem dX1_mayPass_50 : decode cX1_mayPass 50 = .ok (.iload_n 1, 1) := by decide +kernel
theorem dX1_mayPass_51 : decode cX1_mayPass 51 = .ok (.invokestatic 36, 3) := by decide +kernel
theorem dX1_mayPass_54 : decode cX1_mayPass 54 = .ok (.ifCond .eq 13, 3) := by decide +kernel
theorem dX1_mayPass_57 : decode cX1_mayPass 57 = .ok (.aload_n 0, 1) := by decide +kernel
theorem dX1_mayPass_58 : decode cX1_mayPass 58 = .ok (.iload_n 1, 1) := by decide +kernel
theorem dX1_mayPass_59 : decode cX1_mayPass 59 = .ok (.bipush 8, 2) := by decide +kernel
theorem dX1_mayPass_61 : decode cX1_mayPass 61 = .ok (.iadd, 1) := by decide +kernel
theorem dX1_mayPass_62 : decode cX1_mayPass 62 = .ok (.iload_n 2, 1) := by decide +kernel
theorem dX1_mayPass_63 : decode cX1_mayPass 63 = .ok (.invokevirtual 43, 3) := by decide +kernel
theorem dX1_mayPass_66 : decode cX1_mayPass 66 = .ok (.ireturn, 1) := by decide +kernel
theorem dX1_mayPass_67 : decode cX1_mayPass 67 = .ok (.iload_n 2, 1) := by decide +kernel
theorem dX1_mayPass_68 : decode cX1_mayPass 68 = .ok (.invokestatic 32, 3) := by decide +kernel
theorem dX1_mayPass_71 : decode cX1_mayPass 71 = .ok (.ifCond .eq 5, 3) := by decide +kernel
theorem dX1_mayPass_74 : decode cX1_mayPass 74 = .ok (.iconst 1, 1) := by decide +kernel
theorem dX1_mayPass_75 : decode cX1_mayPass 75 = .ok (.ireturn, 1) := by decide +kernel
theorem dX1_mayPass_76 : decode cX1_mayPass 76 = .ok (.iload_n 1, 1) := by decide +kernel
theorem dX1_mayPass_77 : decode cX1_mayPass 77 = .ok (.bipush 7, 2) := by decide +kernel
theorem dX1_mayPass_79 : decode cX1_mayPass 79 = .ok (.if_icmp .ne 5, 3) := by decide +kernel
theorem dX1_mayPass_82 : decode cX1_mayPass 82 = .ok (.iconst 1, 1) := by decide +kernel
theorem dX1_mayPass_83 : decode cX1_mayPass 83 = .ok (.ireturn, 1) := by decide +kernel
theorem dX1_mayPass_84 : decode cX1_mayPass 84 = .ok (.iload_n 1, 1) := by decide +kernel
theorem dX1_mayPass_85 : decode cX1_mayPass 85 = .ok (.bipush 8, 2) := by decide +kernel
theorem dX1_mayPass_87 : decode cX1_mayPass 87 = .ok (.if_icmp .ne 34, 3) := by decide +kernel
theorem dX1_mayPass_90 : decode cX1_mayPass 90 = .ok (.iload_n 3, 1) := by decide +kernel
theorem dX1_mayPass_91 : decode cX1_mayPass 91 = .ok (.ifCond .ne 24, 3) := by decide +kernel
theorem dX1_mayPass_94 : decode cX1_mayPass 94 = .ok (.iload_n 2, 1) := by decide +kernel
theorem dX1_mayPass_95 : decode cX1_mayPass 95 = .ok (.iconst 2, 1) := by decide +kernel
theorem dX1_mayPass_96 : decode cX1_mayPass 96 = .ok (.if_icmp .eq 19, 3) := by decide +kernel
theorem dX1_mayPass_99 : decode cX1_mayPass 99 = .ok (.iload_n 2, 1) := by decide +kernel
theorem dX1_mayPass_100 : decode cX1_mayPass 100 = .ok (.iconst 3, 1) := by decide +kernel
theorem dX1_mayPass_101 : decode cX1_mayPass 101 = .ok (.if_icmp .eq 14, 3) := by decide +kernel
theorem dX1_mayPass_104 : decode cX1_mayPass 104 = .ok (.iload_n 2, 1) := by decide +kernel
theorem dX1_mayPass_105 : decode cX1_mayPass 105 = .ok (.iconst 5, 1) := by decide +kernel
theorem dX1_mayPass_106 : decode cX1_mayPass 106 = .ok (.if_icmp .eq 9, 3) := by decide +kernel
theorem dX1_mayPass_109 : decode cX1_mayPass 109 = .ok (.iload_n 2, 1) := by decide +kernel
theorem dX1_mayPass_110 : decode cX1_mayPass 110 = .ok (.bipush 6, 2) := by decide +kernel
theorem dX1_mayPass_112 : decode cX1_mayPass 112 = .ok (.if_icmp .ne 7, 3) := by decide +kernel
theorem dX1_mayPass_115 : decode cX1_mayPass 115 = .ok (.iconst 1, 1) := by decide +kernel
theorem dX1_mayPass_116 : decode cX1_mayPass 116 = .ok (.goto 4, 3) := by decide +kernel
theorem dX1_mayPass_119 : decode cX1_mayPass 119 = .ok (.iconst 0, 1) := by decide +kernel
theorem dX1_mayPass_120 : decode cX1_mayPass 120 = .ok (.ireturn, 1) := by decide +kernel
theorem dX1_mayPass_121 : decode cX1_mayPass 121 = .ok (.iload_n 1, 1) := by decide +kernel
theorem dX1_mayPass_122 : decode cX1_mayPass 122 = .ok (.invokestatic 46, 3) := by decide +kernel
theorem dX1_mayPass_125 : decode cX1_mayPass 125 = .ok (.ifCond .eq 22, 3) := by decide +kernel
theorem dX1_mayPass_128 : decode cX1_mayPass 128 = .ok (.iload_n 3, 1) := by decide +kernel
theorem dX1_mayPass_129 : decode cX1_mayPass 129 = .ok (.ifCond .ne 14, 3) := by decide +kernel
theorem dX1_mayPass_132 : decode cX1_mayPass 132 = .ok (.iload_n 1, 1) := by decide +kernel
theorem dX1_mayPass_133 : decode cX1_mayPass 133 = .ok (.bipush 8, 2) := by decide +kernel
theorem dX1_mayPass_135 : decode cX1_mayPass 135 = .ok (.isub, 1) := by decide +kernel
theorem dX1_mayPass_136 : decode cX1_mayPass 136 = .ok (.iload_n 2, 1) := by decide +kernel
theorem dX1_mayPass_137 : decode cX1_mayPass 137 = .ok (.invokestatic 39, 3) := by decide +kernel
theorem dX1_mayPass_140 : decode cX1_mayPass 140 = .ok (.ifCond .eq 7, 3) := by decide +kernel
theorem dX1_mayPass_143 : decode cX1_mayPass 143 = .ok (.iconst 1, 1) := by decide +kernel
theorem dX1_mayPass_144 : decode cX1_mayPass 144 = .ok (.goto 4, 3) := by decide +kernel
theorem dX1_mayPass_147 : decode cX1_mayPass 147 = .ok (.iconst 0, 1) := by decide +kernel
theorem dX1_mayPass_148 : decode cX1_mayPass 148 = .ok (.ireturn, 1) := by decide +kernel
abbrev cX1_forcedTo : ByteArray := prog_3_method_10_code
def yX1_forcedTo : MethodName := ⟨RX1, "forcedTo", "(IJ)J"⟩
theorem dX1_forcedTo_0 : decode cX1_forcedTo 0 = .ok (.iload_n 0, 1) := by decide +kernel
theorem dX1_forcedTo_1 : decode cX1_forcedTo 1 = .ok (.tableswitch 59 1 5 #[35, 39, 44, 49, 55], 35) := by decide +kernel
theorem dX1_forcedTo_36 : decode cX1_forcedTo 36 = .ok (.lload_n 1, 1) := by decide +kernel
theorem dX1_forcedTo_37 : decode cX1_forcedTo 37 = .ok (.lconst 1, 1) := by decide +kernel
theorem dX1_forcedTo_38 : decode cX1_forcedTo 38 = .ok (.land, 1) := by decide +kernel
theorem dX1_forcedTo_39 : decode cX1_forcedTo 39 = .ok (.lreturn, 1) := by decide +kernel
theorem dX1_forcedTo_40 : decode cX1_forcedTo 40 = .ok (.lload_n 1, 1) := by decide +kernel
theorem dX1_forcedTo_41 : decode cX1_forcedTo 41 = .ok (.l2i, 1) := by decide +kernel
theorem dX1_forcedTo_42 : decode cX1_forcedTo 42 = .ok (.i2b, 1) := by decide +kernel
theorem dX1_forcedTo_43 : decode cX1_forcedTo 43 = .ok (.i2l, 1) := by decide +kernel
theorem dX1_forcedTo_44 : decode cX1_forcedTo 44 = .ok (.lreturn, 1) := by decide +kernel
theorem dX1_forcedTo_45 : decode cX1_forcedTo 45 = .ok (.lload_n 1, 1) := by decide +kernel
theorem dX1_forcedTo_46 : decode cX1_forcedTo 46 = .ok (.l2i, 1) := by decide +kernel
theorem dX1_forcedTo_47 : decode cX1_forcedTo 47 = .ok (.i2s, 1) := by decide +kernel
theorem dX1_forcedTo_48 : decode cX1_forcedTo 48 = .ok (.i2l, 1) := by decide +kernel
theorem dX1_forcedTo_49 : decode cX1_forcedTo 49 = .ok (.lreturn, 1) := by decide +kernel
theorem dX1_forcedTo_50 : decode cX1_forcedTo 50 = .ok (.lload_n 1, 1) := by decide +kernel
theorem dX1_forcedTo_51 : decode cX1_forcedTo 51 = .ok (.ldc2_w 49, 3) := by decide +kernel
theorem dX1_forcedTo_54 : decode cX1_forcedTo 54 = .ok (.land, 1) := by decide +kernel
theorem dX1_forcedTo_55 : decode cX1_forcedTo 55 = .ok (.lreturn, 1) := by decide +kernel
theorem dX1_forcedTo_56 : decode cX1_forcedTo 56 = .ok (.lload_n 1, 1) := by decide +kernel
theorem dX1_forcedTo_57 : decode cX1_forcedTo 57 = .ok (.l2i, 1) := by decide +kernel
theorem dX1_forcedTo_58 : decode cX1_forcedTo 58 = .ok (.i2l, 1) := by decide +kernel
theorem dX1_forcedTo_59 : decode cX1_forcedTo 59 = .ok (.lreturn, 1) := by decide +kernel
theorem dX1_forcedTo_60 : decode cX1_forcedTo 60 = .ok (.lload_n 1, 1) := by decide +kernel
theorem dX1_forcedTo_61 : decode cX1_forcedTo 61 = .ok (.lreturn, 1) := by decide +kernel
abbrev cX1_findType : ByteArray := prog_3_method_11_code
def yX1_findType : MethodName := ⟨RX1, "findType", "(II)I"⟩
theorem dX1_findType_0 : decode cX1_findType 0 = .ok (.iconst 0, 1) := by decide +kernel
theorem dX1_findType_1 : decode cX1_findType 1 = .ok (.istore_n 3, 1) := by decide +kernel
theorem dX1_findType_2 : decode cX1_findType 2 = .ok (.iload_n 3, 1) := by decide +kernel
theorem dX1_findType_3 : decode cX1_findType 3 = .ok (.aload_n 0, 1) := by decide +kernel
theorem dX1_findType_4 : decode cX1_findType 4 = .ok (.getfield 51, 3) := by decide +kernel
theorem dX1_findType_7 : decode cX1_findType 7 = .ok (.if_icmp .ge 92, 3) := by decide +kernel
theorem dX1_findType_10 : decode cX1_findType 10 = .ok (.aload_n 0, 1) := by decide +kernel
theorem dX1_findType_11 : decode cX1_findType 11 = .ok (.getfield 13, 3) := by decide +kernel
theorem dX1_findType_14 : decode cX1_findType 14 = .ok (.iload_n 3, 1) := by decide +kernel
theorem dX1_findType_15 : decode cX1_findType 15 = .ok (.iaload, 1) := by decide +kernel
theorem dX1_findType_16 : decode cX1_findType 16 = .ok (.iload_n 1, 1) := by decide +kernel
theorem dX1_findType_17 : decode cX1_findType 17 = .ok (.if_icmp .ne 17, 3) := by decide +kernel
theorem dX1_findType_20 : decode cX1_findType 20 = .ok (.aload_n 0, 1) := by decide +kernel
theorem dX1_findType_21 : decode cX1_findType 21 = .ok (.getfield 16, 3) := by decide +kernel
theorem dX1_findType_24 : decode cX1_findType 24 = .ok (.iload_n 3, 1) := by decide +kernel
theorem dX1_findType_25 : decode cX1_findType 25 = .ok (.iaload, 1) := by decide +kernel
theorem dX1_findType_26 : decode cX1_findType 26 = .ok (.iload_n 2, 1) := by decide +kernel
theorem dX1_findType_27 : decode cX1_findType 27 = .ok (.if_icmp .ne 7, 3) := by decide +kernel
theorem dX1_findType_30 : decode cX1_findType 30 = .ok (.iconst 1, 1) := by decide +kernel
theorem dX1_findType_31 : decode cX1_findType 31 = .ok (.goto 4, 3) := by decide +kernel
theorem dX1_findType_34 : decode cX1_findType 34 = .ok (.iconst 0, 1) := by decide +kernel
theorem dX1_findType_35 : decode cX1_findType 35 = .ok (.istore 4, 2) := by decide +kernel
theorem dX1_findType_37 : decode cX1_findType 37 = .ok (.iconst 0, 1) := by decide +kernel
theorem dX1_findType_38 : decode cX1_findType 38 = .ok (.istore 5, 2) := by decide +kernel
theorem dX1_findType_40 : decode cX1_findType 40 = .ok (.iload 5, 2) := by decide +kernel
theorem dX1_findType_42 : decode cX1_findType 42 = .ok (.iload_n 2, 1) := by decide +kernel
theorem dX1_findType_43 : decode cX1_findType 43 = .ok (.if_icmp .ge 43, 3) := by decide +kernel
theorem dX1_findType_46 : decode cX1_findType 46 = .ok (.iload 4, 2) := by decide +kernel
theorem dX1_findType_48 : decode cX1_findType 48 = .ok (.ifCond .eq 38, 3) := by decide +kernel
theorem dX1_findType_51 : decode cX1_findType 51 = .ok (.aload_n 0, 1) := by decide +kernel
theorem dX1_findType_52 : decode cX1_findType 52 = .ok (.getfield 19, 3) := by decide +kernel
theorem dX1_findType_55 : decode cX1_findType 55 = .ok (.bipush 10, 2) := by decide +kernel
theorem dX1_findType_57 : decode cX1_findType 57 = .ok (.iload_n 3, 1) := by decide +kernel
theorem dX1_findType_58 : decode cX1_findType 58 = .ok (.imul, 1) := by decide +kernel
theorem dX1_findType_59 : decode cX1_findType 59 = .ok (.iload 5, 2) := by decide +kernel
theorem dX1_findType_61 : decode cX1_findType 61 = .ok (.iadd, 1) := by decide +kernel
theorem dX1_findType_62 : decode cX1_findType 62 = .ok (.iaload, 1) := by decide +kernel
theorem dX1_findType_63 : decode cX1_findType 63 = .ok (.aload_n 0, 1) := by decide +kernel
theorem dX1_findType_64 : decode cX1_findType 64 = .ok (.getfield 25, 3) := by decide +kernel
theorem dX1_findType_67 : decode cX1_findType 67 = .ok (.iload 5, 2) := by decide +kernel
theorem dX1_findType_69 : decode cX1_findType 69 = .ok (.iaload, 1) := by decide +kernel
theorem dX1_findType_70 : decode cX1_findType 70 = .ok (.if_icmp .ne 7, 3) := by decide +kernel
theorem dX1_findType_73 : decode cX1_findType 73 = .ok (.iconst 1, 1) := by decide +kernel
theorem dX1_findType_74 : decode cX1_findType 74 = .ok (.goto 4, 3) := by decide +kernel
theorem dX1_findType_77 : decode cX1_findType 77 = .ok (.iconst 0, 1) := by decide +kernel
theorem dX1_findType_78 : decode cX1_findType 78 = .ok (.istore 4, 2) := by decide +kernel
theorem dX1_findType_80 : decode cX1_findType 80 = .ok (.iinc 5 1, 3) := by decide +kernel
theorem dX1_findType_83 : decode cX1_findType 83 = .ok (.goto (-43), 3) := by decide +kernel
theorem dX1_findType_86 : decode cX1_findType 86 = .ok (.iload 4, 2) := by decide +kernel
theorem dX1_findType_88 : decode cX1_findType 88 = .ok (.ifCond .eq 5, 3) := by decide +kernel
theorem dX1_findType_91 : decode cX1_findType 91 = .ok (.iload_n 3, 1) := by decide +kernel
theorem dX1_findType_92 : decode cX1_findType 92 = .ok (.ireturn, 1) := by decide +kernel
theorem dX1_findType_93 : decode cX1_findType 93 = .ok (.iinc 3 1, 3) := by decide +kernel
theorem dX1_findType_96 : decode cX1_findType 96 = .ok (.goto (-94), 3) := by decide +kernel
theorem dX1_findType_99 : decode cX1_findType 99 = .ok (.iconst (-1), 1) := by decide +kernel
theorem dX1_findType_100 : decode cX1_findType 100 = .ok (.ireturn, 1) := by decide +kernel
abbrev cX1_madeType : ByteArray := prog_3_method_12_code
def yX1_madeType : MethodName := ⟨RX1, "madeType", "()I"⟩
theorem dX1_madeType_0 : decode cX1_madeType 0 = .ok (.aload_n 0, 1) := by decide +kernel
theorem dX1_madeType_1 : decode cX1_madeType 1 = .ok (.getfield 54, 3) := by decide +kernel
theorem dX1_madeType_4 : decode cX1_madeType 4 = .ok (.bipush 10, 2) := by decide +kernel
theorem dX1_madeType_6 : decode cX1_madeType 6 = .ok (.if_icmp .le 5, 3) := by decide +kernel
theorem dX1_madeType_9 : decode cX1_madeType 9 = .ok (.iconst (-1), 1) := by decide +kernel
theorem dX1_madeType_10 : decode cX1_madeType 10 = .ok (.ireturn, 1) := by decide +kernel
theorem dX1_madeType_11 : decode cX1_madeType 11 = .ok (.aload_n 0, 1) := by decide +kernel
theorem dX1_madeType_12 : decode cX1_madeType 12 = .ok (.aload_n 0, 1) := by decide +kernel
theorem dX1_madeType_13 : decode cX1_madeType 13 = .ok (.getfield 57, 3) := by decide +kernel
theorem dX1_madeType_16 : decode cX1_madeType 16 = .ok (.aload_n 0, 1) := by decide +kernel
theorem dX1_madeType_17 : decode cX1_madeType 17 = .ok (.getfield 54, 3) := by decide +kernel
theorem dX1_madeType_20 : decode cX1_madeType 20 = .ok (.invokevirtual 60, 3) := by decide +kernel
theorem dX1_madeType_23 : decode cX1_madeType 23 = .ok (.istore_n 1, 1) := by decide +kernel
theorem dX1_madeType_24 : decode cX1_madeType 24 = .ok (.iload_n 1, 1) := by decide +kernel
theorem dX1_madeType_25 : decode cX1_madeType 25 = .ok (.iconst (-1), 1) := by decide +kernel
theorem dX1_madeType_26 : decode cX1_madeType 26 = .ok (.if_icmp .ne 13, 3) := by decide +kernel
theorem dX1_madeType_29 : decode cX1_madeType 29 = .ok (.aload_n 0, 1) := by decide +kernel
theorem dX1_madeType_30 : decode cX1_madeType 30 = .ok (.getfield 51, 3) := by decide +kernel
theorem dX1_madeType_33 : decode cX1_madeType 33 = .ok (.sipush 300, 3) := by decide +kernel
theorem dX1_madeType_36 : decode cX1_madeType 36 = .ok (.if_icmp .ne 5, 3) := by decide +kernel
theorem dX1_madeType_39 : decode cX1_madeType 39 = .ok (.iload_n 1, 1) := by decide +kernel
theorem dX1_madeType_40 : decode cX1_madeType 40 = .ok (.ireturn, 1) := by decide +kernel
theorem dX1_madeType_41 : decode cX1_madeType 41 = .ok (.aload_n 0, 1) := by decide +kernel
theorem dX1_madeType_42 : decode cX1_madeType 42 = .ok (.getfield 13, 3) := by decide +kernel
theorem dX1_madeType_45 : decode cX1_madeType 45 = .ok (.aload_n 0, 1) := by decide +kernel
theorem dX1_madeType_46 : decode cX1_madeType 46 = .ok (.getfield 51, 3) := by decide +kernel
theorem dX1_madeType_49 : decode cX1_madeType 49 = .ok (.aload_n 0, 1) := by decide +kernel
theorem dX1_madeType_50 : decode cX1_madeType 50 = .ok (.getfield 57, 3) := by decide +kernel
theorem dX1_madeType_53 : decode cX1_madeType 53 = .ok (.iastore, 1) := by decide +kernel
theorem dX1_madeType_54 : decode cX1_madeType 54 = .ok (.aload_n 0, 1) := by decide +kernel
theorem dX1_madeType_55 : decode cX1_madeType 55 = .ok (.getfield 16, 3) := by decide +kernel
theorem dX1_madeType_58 : decode cX1_madeType 58 = .ok (.aload_n 0, 1) := by decide +kernel
theorem dX1_madeType_59 : decode cX1_madeType 59 = .ok (.getfield 51, 3) := by decide +kernel
theorem dX1_madeType_62 : decode cX1_madeType 62 = .ok (.aload_n 0, 1) := by decide +kernel
theorem dX1_madeType_63 : decode cX1_madeType 63 = .ok (.getfield 54, 3) := by decide +kernel
theorem dX1_madeType_66 : decode cX1_madeType 66 = .ok (.iastore, 1) := by decide +kernel
theorem dX1_madeType_67 : decode cX1_madeType 67 = .ok (.iconst 0, 1) := by decide +kernel
theorem dX1_madeType_68 : decode cX1_madeType 68 = .ok (.istore_n 2, 1) := by decide +kernel
theorem dX1_madeType_69 : decode cX1_madeType 69 = .ok (.iload_n 2, 1) := by decide +kernel
theorem dX1_madeType_70 : decode cX1_madeType 70 = .ok (.aload_n 0, 1) := by decide +kernel
theorem dX1_madeType_71 : decode cX1_madeType 71 = .ok (.getfield 54, 3) := by decide +kernel
theorem dX1_madeType_74 : decode cX1_madeType 74 = .ok (.if_icmp .ge 29, 3) := by decide +kernel
theorem dX1_madeType_77 : decode cX1_madeType 77 = .ok (.aload_n 0, 1) := by decide +kernel
theorem dX1_madeType_78 : decode cX1_madeType 78 = .ok (.getfield 19, 3) := by decide +kernel
theorem dX1_madeType_81 : decode cX1_madeType 81 = .ok (.bipush 10, 2) := by decide +kernel
theorem dX1_madeType_83 : decode cX1_madeType 83 = .ok (.aload_n 0, 1) := by decide +kernel
theorem dX1_madeType_84 : decode cX1_madeType 84 = .ok (.getfield 51, 3) := by decide +kernel
theorem dX1_madeType_87 : decode cX1_madeType 87 = .ok (.imul, 1) := by decide +kernel
theorem dX1_madeType_88 : decode cX1_madeType 88 = .ok (.iload_n 2, 1) := by decide +kernel
theorem dX1_madeType_89 : decode cX1_madeType 89 = .ok (.iadd, 1) := by decide +kernel
theorem dX1_madeType_90 : decode cX1_madeType 90 = .ok (.aload_n 0, 1) := by decide +kernel
theorem dX1_madeType_91 : decode cX1_madeType 91 = .ok (.getfield 25, 3) := by decide +kernel
theorem dX1_madeType_94 : decode cX1_madeType 94 = .ok (.iload_n 2, 1) := by decide +kernel
theorem dX1_madeType_95 : decode cX1_madeType 95 = .ok (.iaload, 1) := by decide +kernel
theorem dX1_madeType_96 : decode cX1_madeType 96 = .ok (.iastore, 1) := by decide +kernel
theorem dX1_madeType_97 : decode cX1_madeType 97 = .ok (.iinc 2 1, 3) := by decide +kernel
theorem dX1_madeType_100 : decode cX1_madeType 100 = .ok (.goto (-31), 3) := by decide +kernel
theorem dX1_madeType_103 : decode cX1_madeType 103 = .ok (.aload_n 0, 1) := by decide +kernel
theorem dX1_madeType_104 : decode cX1_madeType 104 = .ok (.dup, 1) := by decide +kernel
theorem dX1_madeType_105 : decode cX1_madeType 105 = .ok (.getfield 51, 3) := by decide +kernel
theorem dX1_madeType_108 : decode cX1_madeType 108 = .ok (.iconst 1, 1) := by decide +kernel
theorem dX1_madeType_109 : decode cX1_madeType 109 = .ok (.iadd, 1) := by decide +kernel
theorem dX1_madeType_110 : decode cX1_madeType 110 = .ok (.putfield 51, 3) := by decide +kernel
theorem dX1_madeType_113 : decode cX1_madeType 113 = .ok (.aload_n 0, 1) := by decide +kernel
theorem dX1_madeType_114 : decode cX1_madeType 114 = .ok (.getfield 51, 3) := by decide +kernel
theorem dX1_madeType_117 : decode cX1_madeType 117 = .ok (.iconst 1, 1) := by decide +kernel
theorem dX1_madeType_118 : decode cX1_madeType 118 = .ok (.isub, 1) := by decide +kernel
theorem dX1_madeType_119 : decode cX1_madeType 119 = .ok (.ireturn, 1) := by decide +kernel
abbrev cX1_isType : ByteArray := prog_3_method_13_code
def yX1_isType : MethodName := ⟨RX1, "isType", "(I)Z"⟩
theorem dX1_isType_0 : decode cX1_isType 0 = .ok (.iload_n 1, 1) := by decide +kernel
theorem dX1_isType_1 : decode cX1_isType 1 = .ok (.ifCond .lt 15, 3) := by decide +kernel
theorem dX1_isType_4 : decode cX1_isType 4 = .ok (.iload_n 1, 1) := by decide +kernel
theorem dX1_isType_5 : decode cX1_isType 5 = .ok (.aload_n 0, 1) := by decide +kernel
theorem dX1_isType_6 : decode cX1_isType 6 = .ok (.getfield 51, 3) := by decide +kernel
theorem dX1_isType_9 : decode cX1_isType 9 = .ok (.if_icmp .ge 7, 3) := by decide +kernel
theorem dX1_isType_12 : decode cX1_isType 12 = .ok (.iconst 1, 1) := by decide +kernel
theorem dX1_isType_13 : decode cX1_isType 13 = .ok (.goto 4, 3) := by decide +kernel
theorem dX1_isType_16 : decode cX1_isType 16 = .ok (.iconst 0, 1) := by decide +kernel
theorem dX1_isType_17 : decode cX1_isType 17 = .ok (.ireturn, 1) := by decide +kernel
abbrev cX1_isNumber : ByteArray := prog_3_method_14_code
def yX1_isNumber : MethodName := ⟨RX1, "isNumber", "(IJ)Z"⟩
theorem dX1_isNumber_0 : decode cX1_isNumber 0 = .ok (.iload_n 0, 1) := by decide +kernel
theorem dX1_isNumber_1 : decode cX1_isNumber 1 = .ok (.iconst 1, 1) := by decide +kernel
theorem dX1_isNumber_2 : decode cX1_isNumber 2 = .ok (.if_icmp .ne 23, 3) := by decide +kernel
theorem dX1_isNumber_5 : decode cX1_isNumber 5 = .ok (.lload_n 1, 1) := by decide +kernel
theorem dX1_isNumber_6 : decode cX1_isNumber 6 = .ok (.lconst 0, 1) := by decide +kernel
theorem dX1_isNumber_7 : decode cX1_isNumber 7 = .ok (.lcmp, 1) := by decide +kernel
theorem dX1_isNumber_8 : decode cX1_isNumber 8 = .ok (.ifCond .eq 9, 3) := by decide +kernel
theorem dX1_isNumber_11 : decode cX1_isNumber 11 = .ok (.lload_n 1, 1) := by decide +kernel
theorem dX1_isNumber_12 : decode cX1_isNumber 12 = .ok (.lconst 1, 1) := by decide +kernel
theorem dX1_isNumber_13 : decode cX1_isNumber 13 = .ok (.lcmp, 1) := by decide +kernel
theorem dX1_isNumber_14 : decode cX1_isNumber 14 = .ok (.ifCond .ne 7, 3) := by decide +kernel
theorem dX1_isNumber_17 : decode cX1_isNumber 17 = .ok (.iconst 1, 1) := by decide +kernel
theorem dX1_isNumber_18 : decode cX1_isNumber 18 = .ok (.goto 22, 3) := by decide +kernel
theorem dX1_isNumber_21 : decode cX1_isNumber 21 = .ok (.iconst 0, 1) := by decide +kernel
theorem dX1_isNumber_22 : decode cX1_isNumber 22 = .ok (.goto 18, 3) := by decide +kernel
theorem dX1_isNumber_25 : decode cX1_isNumber 25 = .ok (.iload_n 0, 1) := by decide +kernel
theorem dX1_isNumber_26 : decode cX1_isNumber 26 = .ok (.lload_n 1, 1) := by decide +kernel
theorem dX1_isNumber_27 : decode cX1_isNumber 27 = .ok (.invokestatic 64, 3) := by decide +kernel
theorem dX1_isNumber_30 : decode cX1_isNumber 30 = .ok (.lload_n 1, 1) := by decide +kernel
theorem dX1_isNumber_31 : decode cX1_isNumber 31 = .ok (.lcmp, 1) := by decide +kernel
theorem dX1_isNumber_32 : decode cX1_isNumber 32 = .ok (.ifCond .ne 7, 3) := by decide +kernel
theorem dX1_isNumber_35 : decode cX1_isNumber 35 = .ok (.iconst 1, 1) := by decide +kernel
theorem dX1_isNumber_36 : decode cX1_isNumber 36 = .ok (.goto 4, 3) := by decide +kernel
theorem dX1_isNumber_39 : decode cX1_isNumber 39 = .ok (.iconst 0, 1) := by decide +kernel
theorem dX1_isNumber_40 : decode cX1_isNumber 40 = .ok (.ireturn, 1) := by decide +kernel
abbrev cX1_isObject : ByteArray := prog_3_method_15_code
def yX1_isObject : MethodName := ⟨RX1, "isObject", "(I)Z"⟩
theorem dX1_isObject_0 : decode cX1_isObject 0 = .ok (.aload_n 0, 1) := by decide +kernel
theorem dX1_isObject_1 : decode cX1_isObject 1 = .ok (.iload_n 1, 1) := by decide +kernel
theorem dX1_isObject_2 : decode cX1_isObject 2 = .ok (.invokevirtual 68, 3) := by decide +kernel
theorem dX1_isObject_5 : decode cX1_isObject 5 = .ok (.ifCond .eq 13, 3) := by decide +kernel
theorem dX1_isObject_8 : decode cX1_isObject 8 = .ok (.iload_n 1, 1) := by decide +kernel
theorem dX1_isObject_9 : decode cX1_isObject 9 = .ok (.bipush 8, 2) := by decide +kernel
theorem dX1_isObject_11 : decode cX1_isObject 11 = .ok (.if_icmp .le 7, 3) := by decide +kernel
theorem dX1_isObject_14 : decode cX1_isObject 14 = .ok (.iconst 1, 1) := by decide +kernel
theorem dX1_isObject_15 : decode cX1_isObject 15 = .ok (.goto 4, 3) := by decide +kernel
theorem dX1_isObject_18 : decode cX1_isObject 18 = .ok (.iconst 0, 1) := by decide +kernel
theorem dX1_isObject_19 : decode cX1_isObject 19 = .ok (.ireturn, 1) := by decide +kernel
abbrev cX1_meet : ByteArray := prog_3_method_18_code
def yX1_meet : MethodName := ⟨RX1, "meet", "(II)I"⟩
theorem dX1_meet_0 : decode cX1_meet 0 = .ok (.aload_n 0, 1) := by decide +kernel
theorem dX1_meet_1 : decode cX1_meet 1 = .ok (.iload_n 1, 1) := by decide +kernel
theorem dX1_meet_2 : decode cX1_meet 2 = .ok (.invokevirtual 68, 3) := by decide +kernel
theorem dX1_meet_5 : decode cX1_meet 5 = .ok (.ifCond .eq 11, 3) := by decide +kernel
theorem dX1_meet_8 : decode cX1_meet 8 = .ok (.aload_n 0, 1) := by decide +kernel
theorem dX1_meet_9 : decode cX1_meet 9 = .ok (.iload_n 2, 1) := by decide +kernel
theorem dX1_meet_10 : decode cX1_meet 10 = .ok (.invokevirtual 68, 3) := by decide +kernel
theorem dX1_meet_13 : decode cX1_meet 13 = .ok (.ifCond .ne 5, 3) := by decide +kernel
theorem dX1_meet_16 : decode cX1_meet 16 = .ok (.iconst (-1), 1) := by decide +kernel
theorem dX1_meet_17 : decode cX1_meet 17 = .ok (.ireturn, 1) := by decide +kernel
theorem dX1_meet_18 : decode cX1_meet 18 = .ok (.iconst 0, 1) := by decide +kernel
theorem dX1_meet_19 : decode cX1_meet 19 = .ok (.istore_n 3, 1) := by decide +kernel
theorem dX1_meet_20 : decode cX1_meet 20 = .ok (.iload_n 3, 1) := by decide +kernel
theorem dX1_meet_21 : decode cX1_meet 21 = .ok (.bipush 20, 2) := by decide +kernel
theorem dX1_meet_23 : decode cX1_meet 23 = .ok (.aload_n 0, 1) := by decide +kernel
theorem dX1_meet_24 : decode cX1_meet 24 = .ok (.getfield 28, 3) := by decide +kernel
theorem dX1_meet_27 : decode cX1_meet 27 = .ok (.iadd, 1) := by decide +kernel
theorem dX1_meet_28 : decode cX1_meet 28 = .ok (.if_icmp .ge 103, 3) := by decide +kernel
theorem dX1_meet_31 : decode cX1_meet 31 = .ok (.aload_n 0, 1) := by decide +kernel
theorem dX1_meet_32 : decode cX1_meet 32 = .ok (.iload_n 1, 1) := by decide +kernel
theorem dX1_meet_33 : decode cX1_meet 33 = .ok (.iload_n 3, 1) := by decide +kernel
theorem dX1_meet_34 : decode cX1_meet 34 = .ok (.invokevirtual 43, 3) := by decide +kernel
theorem dX1_meet_37 : decode cX1_meet 37 = .ok (.ifCond .eq 88, 3) := by decide +kernel
theorem dX1_meet_40 : decode cX1_meet 40 = .ok (.aload_n 0, 1) := by decide +kernel
theorem dX1_meet_41 : decode cX1_meet 41 = .ok (.iload_n 2, 1) := by decide +kernel
theorem dX1_meet_42 : decode cX1_meet 42 = .ok (.iload_n 3, 1) := by decide +kernel
theorem dX1_meet_43 : decode cX1_meet 43 = .ok (.invokevirtual 43, 3) := by decide +kernel
theorem dX1_meet_46 : decode cX1_meet 46 = .ok (.ifCond .ne 6, 3) := by decide +kernel
theorem dX1_meet_49 : decode cX1_meet 49 = .ok (.goto 76, 3) := by decide +kernel
theorem dX1_meet_52 : decode cX1_meet 52 = .ok (.iconst 1, 1) := by decide +kernel
theorem dX1_meet_53 : decode cX1_meet 53 = .ok (.istore 4, 2) := by decide +kernel
theorem dX1_meet_55 : decode cX1_meet 55 = .ok (.iconst 0, 1) := by decide +kernel
theorem dX1_meet_56 : decode cX1_meet 56 = .ok (.istore 5, 2) := by decide +kernel
theorem dX1_meet_58 : decode cX1_meet 58 = .ok (.iload 5, 2) := by decide +kernel
theorem dX1_meet_60 : decode cX1_meet 60 = .ok (.bipush 20, 2) := by decide +kernel
theorem dX1_meet_62 : decode cX1_meet 62 = .ok (.aload_n 0, 1) := by decide +kernel
theorem dX1_meet_63 : decode cX1_meet 63 = .ok (.getfield 28, 3) := by decide +kernel
theorem dX1_meet_66 : decode cX1_meet 66 = .ok (.iadd, 1) := by decide +kernel
theorem dX1_meet_67 : decode cX1_meet 67 = .ok (.if_icmp .ge 51, 3) := by decide +kernel
theorem dX1_meet_70 : decode cX1_meet 70 = .ok (.iload 4, 2) := by decide +kernel
theorem dX1_meet_72 : decode cX1_meet 72 = .ok (.ifCond .eq 46, 3) := by decide +kernel
theorem dX1_meet_75 : decode cX1_meet 75 = .ok (.aload_n 0, 1) := by decide +kernel
theorem dX1_meet_76 : decode cX1_meet 76 = .ok (.iload_n 1, 1) := by decide +kernel
theorem dX1_meet_77 : decode cX1_meet 77 = .ok (.iload 5, 2) := by decide +kernel
theorem dX1_meet_79 : decode cX1_meet 79 = .ok (.invokevirtual 43, 3) := by decide +kernel
theorem dX1_meet_82 : decode cX1_meet 82 = .ok (.ifCond .eq 23, 3) := by decide +kernel
theorem dX1_meet_85 : decode cX1_meet 85 = .ok (.aload_n 0, 1) := by decide +kernel
theorem dX1_meet_86 : decode cX1_meet 86 = .ok (.iload_n 2, 1) := by decide +kernel
theorem dX1_meet_87 : decode cX1_meet 87 = .ok (.iload 5, 2) := by decide +kernel
theorem dX1_meet_89 : decode cX1_meet 89 = .ok (.invokevirtual 43, 3) := by decide +kernel
theorem dX1_meet_92 : decode cX1_meet 92 = .ok (.ifCond .eq 13, 3) := by decide +kernel
theorem dX1_meet_95 : decode cX1_meet 95 = .ok (.aload_n 0, 1) := by decide +kernel
theorem dX1_meet_96 : decode cX1_meet 96 = .ok (.iload_n 3, 1) := by decide +kernel
theorem dX1_meet_97 : decode cX1_meet 97 = .ok (.iload 5, 2) := by decide +kernel
theorem dX1_meet_99 : decode cX1_meet 99 = .ok (.invokevirtual 43, 3) := by decide +kernel
theorem dX1_meet_102 : decode cX1_meet 102 = .ok (.ifCond .eq 7, 3) := by decide +kernel
theorem dX1_meet_105 : decode cX1_meet 105 = .ok (.iconst 1, 1) := by decide +kernel
theorem dX1_meet_106 : decode cX1_meet 106 = .ok (.goto 4, 3) := by decide +kernel
theorem dX1_meet_109 : decode cX1_meet 109 = .ok (.iconst 0, 1) := by decide +kernel
theorem dX1_meet_110 : decode cX1_meet 110 = .ok (.istore 4, 2) := by decide +kernel
theorem dX1_meet_112 : decode cX1_meet 112 = .ok (.iinc 5 1, 3) := by decide +kernel
theorem dX1_meet_115 : decode cX1_meet 115 = .ok (.goto (-57), 3) := by decide +kernel
theorem dX1_meet_118 : decode cX1_meet 118 = .ok (.iload 4, 2) := by decide +kernel
theorem dX1_meet_120 : decode cX1_meet 120 = .ok (.ifCond .eq 5, 3) := by decide +kernel
theorem dX1_meet_123 : decode cX1_meet 123 = .ok (.iload_n 3, 1) := by decide +kernel
theorem dX1_meet_124 : decode cX1_meet 124 = .ok (.ireturn, 1) := by decide +kernel
theorem dX1_meet_125 : decode cX1_meet 125 = .ok (.iinc 3 1, 3) := by decide +kernel
theorem dX1_meet_128 : decode cX1_meet 128 = .ok (.goto (-108), 3) := by decide +kernel
theorem dX1_meet_131 : decode cX1_meet 131 = .ok (.iconst (-1), 1) := by decide +kernel
theorem dX1_meet_132 : decode cX1_meet 132 = .ok (.ireturn, 1) := by decide +kernel
abbrev cX1_may : ByteArray := prog_3_method_19_code
def yX1_may : MethodName := ⟨RX1, "may", "(IIZZ)Z"⟩
theorem dX1_may_0 : decode cX1_may 0 = .ok (.aload_n 0, 1) := by decide +kernel
theorem dX1_may_1 : decode cX1_may 1 = .ok (.iload_n 1, 1) := by decide +kernel
theorem dX1_may_2 : decode cX1_may 2 = .ok (.invokevirtual 68, 3) := by decide +kernel
theorem dX1_may_5 : decode cX1_may 5 = .ok (.ifCond .eq 24, 3) := by decide +kernel
theorem dX1_may_8 : decode cX1_may 8 = .ok (.aload_n 0, 1) := by decide +kernel
theorem dX1_may_9 : decode cX1_may 9 = .ok (.iload_n 2, 1) := by decide +kernel
theorem dX1_may_10 : decode cX1_may 10 = .ok (.invokevirtual 68, 3) := by decide +kernel
theorem dX1_may_13 : decode cX1_may 13 = .ok (.ifCond .eq 16, 3) := by decide +kernel
theorem dX1_may_16 : decode cX1_may 16 = .ok (.iload 4, 2) := by decide +kernel
theorem dX1_may_18 : decode cX1_may 18 = .ok (.ifCond .ne 13, 3) := by decide +kernel
theorem dX1_may_21 : decode cX1_may 21 = .ok (.iload_n 1, 1) := by decide +kernel
theorem dX1_may_22 : decode cX1_may 22 = .ok (.ifCond .eq 7, 3) := by decide +kernel
theorem dX1_may_25 : decode cX1_may 25 = .ok (.iload_n 2, 1) := by decide +kernel
theorem dX1_may_26 : decode cX1_may 26 = .ok (.ifCond .ne 5, 3) := by decide +kernel
theorem dX1_may_29 : decode cX1_may 29 = .ok (.iconst 0, 1) := by decide +kernel
theorem dX1_may_30 : decode cX1_may 30 = .ok (.ireturn, 1) := by decide +kernel
theorem dX1_may_31 : decode cX1_may 31 = .ok (.aload_n 0, 1) := by decide +kernel
theorem dX1_may_32 : decode cX1_may 32 = .ok (.iload_n 1, 1) := by decide +kernel
theorem dX1_may_33 : decode cX1_may 33 = .ok (.iload_n 2, 1) := by decide +kernel
theorem dX1_may_34 : decode cX1_may 34 = .ok (.iload_n 3, 1) := by decide +kernel
theorem dX1_may_35 : decode cX1_may 35 = .ok (.iload 4, 2) := by decide +kernel
theorem dX1_may_37 : decode cX1_may 37 = .ok (.invokevirtual 71, 3) := by decide +kernel
theorem dX1_may_40 : decode cX1_may 40 = .ok (.ireturn, 1) := by decide +kernel
abbrev cX1_kept : ByteArray := prog_3_method_20_code
def yX1_kept : MethodName := ⟨RX1, "kept", "(IJ)I"⟩
theorem dX1_kept_0 : decode cX1_kept 0 = .ok (.aload_n 0, 1) := by decide +kernel
theorem dX1_kept_1 : decode cX1_kept 1 = .ok (.iload_n 1, 1) := by decide +kernel
theorem dX1_kept_2 : decode cX1_kept 2 = .ok (.putfield 75, 3) := by decide +kernel
theorem dX1_kept_5 : decode cX1_kept 5 = .ok (.aload_n 0, 1) := by decide +kernel
theorem dX1_kept_6 : decode cX1_kept 6 = .ok (.lload_n 2, 1) := by decide +kernel
theorem dX1_kept_7 : decode cX1_kept 7 = .ok (.putfield 78, 3) := by decide +kernel
theorem dX1_kept_10 : decode cX1_kept 10 = .ok (.iconst 0, 1) := by decide +kernel
theorem dX1_kept_11 : decode cX1_kept 11 = .ok (.ireturn, 1) := by decide +kernel
abbrev cX1_pass : ByteArray := prog_3_method_21_code
def yX1_pass : MethodName := ⟨RX1, "pass", "(IIZIJ)I"⟩
theorem dX1_pass_0 : decode cX1_pass 0 = .ok (.aload_n 0, 1) := by decide +kernel
theorem dX1_pass_1 : decode cX1_pass 1 = .ok (.iload_n 1, 1) := by decide +kernel
theorem dX1_pass_2 : decode cX1_pass 2 = .ok (.iload_n 2, 1) := by decide +kernel
theorem dX1_pass_3 : decode cX1_pass 3 = .ok (.iload_n 3, 1) := by decide +kernel
theorem dX1_pass_4 : decode cX1_pass 4 = .ok (.iconst 0, 1) := by decide +kernel
theorem dX1_pass_5 : decode cX1_pass 5 = .ok (.invokevirtual 82, 3) := by decide +kernel
theorem dX1_pass_8 : decode cX1_pass 8 = .ok (.ifCond .ne 5, 3) := by decide +kernel
theorem dX1_pass_11 : decode cX1_pass 11 = .ok (.iconst (-1), 1) := by decide +kernel
theorem dX1_pass_12 : decode cX1_pass 12 = .ok (.ireturn, 1) := by decide +kernel
theorem dX1_pass_13 : decode cX1_pass 13 = .ok (.iload_n 1, 1) := by decide +kernel
theorem dX1_pass_14 : decode cX1_pass 14 = .ok (.invokestatic 36, 3) := by decide +kernel
theorem dX1_pass_17 : decode cX1_pass 17 = .ok (.ifCond .eq 53, 3) := by decide +kernel
theorem dX1_pass_20 : decode cX1_pass 20 = .ok (.iload_n 1, 1) := by decide +kernel
theorem dX1_pass_21 : decode cX1_pass 21 = .ok (.lload 5, 2) := by decide +kernel
theorem dX1_pass_23 : decode cX1_pass 23 = .ok (.invokestatic 85, 3) := by decide +kernel
theorem dX1_pass_26 : decode cX1_pass 26 = .ok (.ifCond .ne 5, 3) := by decide +kernel
theorem dX1_pass_29 : decode cX1_pass 29 = .ok (.iconst (-1), 1) := by decide +kernel
theorem dX1_pass_30 : decode cX1_pass 30 = .ok (.ireturn, 1) := by decide +kernel
theorem dX1_pass_31 : decode cX1_pass 31 = .ok (.iload_n 2, 1) := by decide +kernel
theorem dX1_pass_32 : decode cX1_pass 32 = .ok (.invokestatic 36, 3) := by decide +kernel
theorem dX1_pass_35 : decode cX1_pass 35 = .ok (.ifCond .eq 24, 3) := by decide +kernel
theorem dX1_pass_38 : decode cX1_pass 38 = .ok (.aload_n 0, 1) := by decide +kernel
theorem dX1_pass_39 : decode cX1_pass 39 = .ok (.iconst 0, 1) := by decide +kernel
theorem dX1_pass_40 : decode cX1_pass 40 = .ok (.iload_n 3, 1) := by decide +kernel
theorem dX1_pass_41 : decode cX1_pass 41 = .ok (.ifCond .eq 12, 3) := by decide +kernel
theorem dX1_pass_44 : decode cX1_pass 44 = .ok (.iload_n 2, 1) := by decide +kernel
theorem dX1_pass_45 : decode cX1_pass 45 = .ok (.lload 5, 2) := by decide +kernel
theorem dX1_pass_47 : decode cX1_pass 47 = .ok (.invokestatic 64, 3) := by decide +kernel
theorem dX1_pass_50 : decode cX1_pass 50 = .ok (.goto 5, 3) := by decide +kernel
theorem dX1_pass_53 : decode cX1_pass 53 = .ok (.lload 5, 2) := by decide +kernel
theorem dX1_pass_55 : decode cX1_pass 55 = .ok (.invokevirtual 89, 3) := by decide +kernel
theorem dX1_pass_58 : decode cX1_pass 58 = .ok (.ireturn, 1) := by decide +kernel
theorem dX1_pass_59 : decode cX1_pass 59 = .ok (.aload_n 0, 1) := by decide +kernel
theorem dX1_pass_60 : decode cX1_pass 60 = .ok (.iload_n 1, 1) := by decide +kernel
theorem dX1_pass_61 : decode cX1_pass 61 = .ok (.bipush 8, 2) := by decide +kernel
theorem dX1_pass_63 : decode cX1_pass 63 = .ok (.iadd, 1) := by decide +kernel
theorem dX1_pass_64 : decode cX1_pass 64 = .ok (.lload 5, 2) := by decide +kernel
theorem dX1_pass_66 : decode cX1_pass 66 = .ok (.invokevirtual 89, 3) := by decide +kernel
theorem dX1_pass_69 : decode cX1_pass 69 = .ok (.ireturn, 1) := by decide +kernel
theorem dX1_pass_70 : decode cX1_pass 70 = .ok (.iload 4, 2) := by decide +kernel
theorem dX1_pass_72 : decode cX1_pass 72 = .ok (.ifCond .ne 46, 3) := by decide +kernel
theorem dX1_pass_75 : decode cX1_pass 75 = .ok (.iload_n 2, 1) := by decide +kernel
theorem dX1_pass_76 : decode cX1_pass 76 = .ok (.invokestatic 32, 3) := by decide +kernel
theorem dX1_pass_79 : decode cX1_pass 79 = .ok (.ifCond .eq 10, 3) := by decide +kernel
theorem dX1_pass_82 : decode cX1_pass 82 = .ok (.aload_n 0, 1) := by decide +kernel
theorem dX1_pass_83 : decode cX1_pass 83 = .ok (.iconst 0, 1) := by decide +kernel
theorem dX1_pass_84 : decode cX1_pass 84 = .ok (.lconst 0, 1) := by decide +kernel
theorem dX1_pass_85 : decode cX1_pass 85 = .ok (.invokevirtual 89, 3) := by decide +kernel
theorem dX1_pass_88 : decode cX1_pass 88 = .ok (.ireturn, 1) := by decide +kernel
theorem dX1_pass_89 : decode cX1_pass 89 = .ok (.iload_n 3, 1) := by decide +kernel
theorem dX1_pass_90 : decode cX1_pass 90 = .ok (.ifCond .eq 12, 3) := by decide +kernel
theorem dX1_pass_93 : decode cX1_pass 93 = .ok (.aload_n 0, 1) := by decide +kernel
theorem dX1_pass_94 : decode cX1_pass 94 = .ok (.iconst 0, 1) := by decide +kernel
theorem dX1_pass_95 : decode cX1_pass 95 = .ok (.lconst 0, 1) := by decide +kernel
theorem dX1_pass_96 : decode cX1_pass 96 = .ok (.invokevirtual 89, 3) := by decide +kernel
theorem dX1_pass_99 : decode cX1_pass 99 = .ok (.goto 18, 3) := by decide +kernel
theorem dX1_pass_102 : decode cX1_pass 102 = .ok (.iload_n 1, 1) := by decide +kernel
theorem dX1_pass_103 : decode cX1_pass 103 = .ok (.iload_n 2, 1) := by decide +kernel
theorem dX1_pass_104 : decode cX1_pass 104 = .ok (.if_icmp .ne 12, 3) := by decide +kernel
theorem dX1_pass_107 : decode cX1_pass 107 = .ok (.aload_n 0, 1) := by decide +kernel
theorem dX1_pass_108 : decode cX1_pass 108 = .ok (.iconst 0, 1) := by decide +kernel
theorem dX1_pass_109 : decode cX1_pass 109 = .ok (.lconst 0, 1) := by decide +kernel
theorem dX1_pass_110 : decode cX1_pass 110 = .ok (.invokevirtual 89, 3) := by decide +kernel
theorem dX1_pass_113 : decode cX1_pass 113 = .ok (.goto 4, 3) := by decide +kernel
theorem dX1_pass_116 : decode cX1_pass 116 = .ok (.iconst 1, 1) := by decide +kernel
theorem dX1_pass_117 : decode cX1_pass 117 = .ok (.ireturn, 1) := by decide +kernel
theorem dX1_pass_118 : decode cX1_pass 118 = .ok (.aload_n 0, 1) := by decide +kernel
theorem dX1_pass_119 : decode cX1_pass 119 = .ok (.iload 4, 2) := by decide +kernel
theorem dX1_pass_121 : decode cX1_pass 121 = .ok (.invokevirtual 93, 3) := by decide +kernel
theorem dX1_pass_124 : decode cX1_pass 124 = .ok (.ifCond .eq 34, 3) := by decide +kernel
theorem dX1_pass_127 : decode cX1_pass 127 = .ok (.aload_n 0, 1) := by decide +kernel
theorem dX1_pass_128 : decode cX1_pass 128 = .ok (.iload 4, 2) := by decide +kernel
theorem dX1_pass_130 : decode cX1_pass 130 = .ok (.iload_n 1, 1) := by decide +kernel
theorem dX1_pass_131 : decode cX1_pass 131 = .ok (.invokevirtual 43, 3) := by decide +kernel
theorem dX1_pass_134 : decode cX1_pass 134 = .ok (.ifCond .eq 24, 3) := by decide +kernel
theorem dX1_pass_137 : decode cX1_pass 137 = .ok (.iload 4, 2) := by decide +kernel
theorem dX1_pass_139 : decode cX1_pass 139 = .ok (.invokestatic 46, 3) := by decide +kernel
theorem dX1_pass_142 : decode cX1_pass 142 = .ok (.ifCond .eq 18, 3) := by decide +kernel
theorem dX1_pass_145 : decode cX1_pass 145 = .ok (.iload 4, 2) := by decide +kernel
theorem dX1_pass_147 : decode cX1_pass 147 = .ok (.bipush 8, 2) := by decide +kernel
theorem dX1_pass_149 : decode cX1_pass 149 = .ok (.isub, 1) := by decide +kernel
theorem dX1_pass_150 : decode cX1_pass 150 = .ok (.lload 5, 2) := by decide +kernel
theorem dX1_pass_152 : decode cX1_pass 152 = .ok (.invokestatic 85, 3) := by decide +kernel
theorem dX1_pass_155 : decode cX1_pass 155 = .ok (.ifCond .ne 5, 3) := by decide +kernel
theorem dX1_pass_158 : decode cX1_pass 158 = .ok (.iconst (-1), 1) := by decide +kernel
theorem dX1_pass_159 : decode cX1_pass 159 = .ok (.ireturn, 1) := by decide +kernel
theorem dX1_pass_160 : decode cX1_pass 160 = .ok (.iload_n 2, 1) := by decide +kernel
theorem dX1_pass_161 : decode cX1_pass 161 = .ok (.invokestatic 32, 3) := by decide +kernel
theorem dX1_pass_164 : decode cX1_pass 164 = .ok (.ifCond .eq 26, 3) := by decide +kernel
theorem dX1_pass_167 : decode cX1_pass 167 = .ok (.aload_n 0, 1) := by decide +kernel
theorem dX1_pass_168 : decode cX1_pass 168 = .ok (.iload 4, 2) := by decide +kernel
theorem dX1_pass_170 : decode cX1_pass 170 = .ok (.iload_n 2, 1) := by decide +kernel
theorem dX1_pass_171 : decode cX1_pass 171 = .ok (.invokevirtual 43, 3) := by decide +kernel
theorem dX1_pass_174 : decode cX1_pass 174 = .ok (.ifCond .eq 14, 3) := by decide +kernel
theorem dX1_pass_177 : decode cX1_pass 177 = .ok (.aload_n 0, 1) := by decide +kernel
theorem dX1_pass_178 : decode cX1_pass 178 = .ok (.iload 4, 2) := by decide +kernel
theorem dX1_pass_180 : decode cX1_pass 180 = .ok (.lload 5, 2) := by decide +kernel
theorem dX1_pass_182 : decode cX1_pass 182 = .ok (.invokevirtual 89, 3) := by decide +kernel
theorem dX1_pass_185 : decode cX1_pass 185 = .ok (.goto 4, 3) := by decide +kernel
theorem dX1_pass_188 : decode cX1_pass 188 = .ok (.iconst 2, 1) := by decide +kernel
theorem dX1_pass_189 : decode cX1_pass 189 = .ok (.ireturn, 1) := by decide +kernel
theorem dX1_pass_190 : decode cX1_pass 190 = .ok (.iload 4, 2) := by decide +kernel
theorem dX1_pass_192 : decode cX1_pass 192 = .ok (.invokestatic 46, 3) := by decide +kernel
theorem dX1_pass_195 : decode cX1_pass 195 = .ok (.ifCond .eq 19, 3) := by decide +kernel
theorem dX1_pass_198 : decode cX1_pass 198 = .ok (.iload_n 3, 1) := by decide +kernel
theorem dX1_pass_199 : decode cX1_pass 199 = .ok (.ifCond .ne 17, 3) := by decide +kernel
theorem dX1_pass_202 : decode cX1_pass 202 = .ok (.iload 4, 2) := by decide +kernel
theorem dX1_pass_204 : decode cX1_pass 204 = .ok (.bipush 8, 2) := by decide +kernel
theorem dX1_pass_206 : decode cX1_pass 206 = .ok (.isub, 1) := by decide +kernel
theorem dX1_pass_207 : decode cX1_pass 207 = .ok (.iload_n 2, 1) := by decide +kernel
theorem dX1_pass_208 : decode cX1_pass 208 = .ok (.invokestatic 39, 3) := by decide +kernel
theorem dX1_pass_211 : decode cX1_pass 211 = .ok (.ifCond .ne 5, 3) := by decide +kernel
theorem dX1_pass_214 : decode cX1_pass 214 = .ok (.iconst 2, 1) := by decide +kernel
theorem dX1_pass_215 : decode cX1_pass 215 = .ok (.ireturn, 1) := by decide +kernel
theorem dX1_pass_216 : decode cX1_pass 216 = .ok (.aload_n 0, 1) := by decide +kernel
theorem dX1_pass_217 : decode cX1_pass 217 = .ok (.iconst 0, 1) := by decide +kernel
theorem dX1_pass_218 : decode cX1_pass 218 = .ok (.iload_n 3, 1) := by decide +kernel
theorem dX1_pass_219 : decode cX1_pass 219 = .ok (.ifCond .eq 12, 3) := by decide +kernel
theorem dX1_pass_222 : decode cX1_pass 222 = .ok (.iload_n 2, 1) := by decide +kernel
theorem dX1_pass_223 : decode cX1_pass 223 = .ok (.lload 5, 2) := by decide +kernel
theorem dX1_pass_225 : decode cX1_pass 225 = .ok (.invokestatic 64, 3) := by decide +kernel
theorem dX1_pass_228 : decode cX1_pass 228 = .ok (.goto 5, 3) := by decide +kernel
theorem dX1_pass_231 : decode cX1_pass 231 = .ok (.lload 5, 2) := by decide +kernel
theorem dX1_pass_233 : decode cX1_pass 233 = .ok (.invokevirtual 89, 3) := by decide +kernel
theorem dX1_pass_236 : decode cX1_pass 236 = .ok (.ireturn, 1) := by decide +kernel
abbrev cX1_kind : ByteArray := prog_3_method_22_code
def yX1_kind : MethodName := ⟨RX1, "kind", "()I"⟩
theorem dX1_kind_0 : decode cX1_kind 0 = .ok (.aload_n 0, 1) := by decide +kernel
theorem dX1_kind_1 : decode cX1_kind 1 = .ok (.getfield 75, 3) := by decide +kernel
theorem dX1_kind_4 : decode cX1_kind 4 = .ok (.ireturn, 1) := by decide +kernel
abbrev cX1_number : ByteArray := prog_3_method_23_code
def yX1_number : MethodName := ⟨RX1, "number", "()J"⟩
theorem dX1_number_0 : decode cX1_number 0 = .ok (.aload_n 0, 1) := by decide +kernel
theorem dX1_number_1 : decode cX1_number 1 = .ok (.getfield 78, 3) := by decide +kernel
theorem dX1_number_4 : decode cX1_number 4 = .ok (.lreturn, 1) := by decide +kernel
abbrev cX1_put : ByteArray := prog_3_method_24_code
def yX1_put : MethodName := ⟨RX1, "put", "(I)Z"⟩
theorem dX1_put_0 : decode cX1_put 0 = .ok (.aload_n 0, 1) := by decide +kernel
theorem dX1_put_1 : decode cX1_put 1 = .ok (.getfield 96, 3) := by decide +kernel
theorem dX1_put_4 : decode cX1_put 4 = .ok (.bipush 20, 2) := by decide +kernel
theorem dX1_put_6 : decode cX1_put 6 = .ok (.if_icmp .ne 5, 3) := by decide +kernel
theorem dX1_put_9 : decode cX1_put 9 = .ok (.iconst 0, 1) := by decide +kernel
theorem dX1_put_10 : decode cX1_put 10 = .ok (.ireturn, 1) := by decide +kernel
theorem dX1_put_11 : decode cX1_put 11 = .ok (.aload_n 0, 1) := by decide +kernel
theorem dX1_put_12 : decode cX1_put 12 = .ok (.getfield 22, 3) := by decide +kernel
theorem dX1_put_15 : decode cX1_put 15 = .ok (.aload_n 0, 1) := by decide +kernel
theorem dX1_put_16 : decode cX1_put 16 = .ok (.getfield 96, 3) := by decide +kernel
theorem dX1_put_19 : decode cX1_put 19 = .ok (.iload_n 1, 1) := by decide +kernel
theorem dX1_put_20 : decode cX1_put 20 = .ok (.iastore, 1) := by decide +kernel
theorem dX1_put_21 : decode cX1_put 21 = .ok (.aload_n 0, 1) := by decide +kernel
theorem dX1_put_22 : decode cX1_put 22 = .ok (.dup, 1) := by decide +kernel
theorem dX1_put_23 : decode cX1_put 23 = .ok (.getfield 96, 3) := by decide +kernel
theorem dX1_put_26 : decode cX1_put 26 = .ok (.iconst 1, 1) := by decide +kernel
theorem dX1_put_27 : decode cX1_put 27 = .ok (.iadd, 1) := by decide +kernel
theorem dX1_put_28 : decode cX1_put 28 = .ok (.putfield 96, 3) := by decide +kernel
theorem dX1_put_31 : decode cX1_put 31 = .ok (.iconst 1, 1) := by decide +kernel
theorem dX1_put_32 : decode cX1_put 32 = .ok (.ireturn, 1) := by decide +kernel
abbrev cX1_type : ByteArray := prog_3_method_25_code
def yX1_type : MethodName := ⟨RX1, "type", "(I)I"⟩
theorem dX1_type_0 : decode cX1_type 0 = .ok (.aload_n 0, 1) := by decide +kernel
theorem dX1_type_1 : decode cX1_type 1 = .ok (.getfield 96, 3) := by decide +kernel
theorem dX1_type_4 : decode cX1_type 4 = .ok (.istore_n 2, 1) := by decide +kernel
theorem dX1_type_5 : decode cX1_type 5 = .ok (.aload_n 0, 1) := by decide +kernel
theorem dX1_type_6 : decode cX1_type 6 = .ok (.iconst 0, 1) := by decide +kernel
theorem dX1_type_7 : decode cX1_type 7 = .ok (.putfield 96, 3) := by decide +kernel
theorem dX1_type_10 : decode cX1_type 10 = .ok (.aload_n 0, 1) := by decide +kernel
theorem dX1_type_11 : decode cX1_type 11 = .ok (.iload_n 1, 1) := by decide +kernel
theorem dX1_type_12 : decode cX1_type 12 = .ok (.invokevirtual 68, 3) := by decide +kernel
theorem dX1_type_15 : decode cX1_type 15 = .ok (.ifCond .eq 13, 3) := by decide +kernel
theorem dX1_type_18 : decode cX1_type 18 = .ok (.iload_n 2, 1) := by decide +kernel
theorem dX1_type_19 : decode cX1_type 19 = .ok (.bipush 10, 2) := by decide +kernel
theorem dX1_type_21 : decode cX1_type 21 = .ok (.if_icmp .gt 7, 3) := by decide +kernel
theorem dX1_type_24 : decode cX1_type 24 = .ok (.iconst 1, 1) := by decide +kernel
theorem dX1_type_25 : decode cX1_type 25 = .ok (.goto 4, 3) := by decide +kernel
theorem dX1_type_28 : decode cX1_type 28 = .ok (.iconst 0, 1) := by decide +kernel
theorem dX1_type_29 : decode cX1_type 29 = .ok (.istore_n 3, 1) := by decide +kernel
theorem dX1_type_30 : decode cX1_type 30 = .ok (.iconst 0, 1) := by decide +kernel
theorem dX1_type_31 : decode cX1_type 31 = .ok (.istore 4, 2) := by decide +kernel
theorem dX1_type_33 : decode cX1_type 33 = .ok (.iload 4, 2) := by decide +kernel
theorem dX1_type_35 : decode cX1_type 35 = .ok (.iload_n 2, 1) := by decide +kernel
theorem dX1_type_36 : decode cX1_type 36 = .ok (.if_icmp .ge 43, 3) := by decide +kernel
theorem dX1_type_39 : decode cX1_type 39 = .ok (.iload_n 3, 1) := by decide +kernel
theorem dX1_type_40 : decode cX1_type 40 = .ok (.ifCond .eq 39, 3) := by decide +kernel
theorem dX1_type_43 : decode cX1_type 43 = .ok (.aload_n 0, 1) := by decide +kernel
theorem dX1_type_44 : decode cX1_type 44 = .ok (.aload_n 0, 1) := by decide +kernel
theorem dX1_type_45 : decode cX1_type 45 = .ok (.getfield 22, 3) := by decide +kernel
theorem dX1_type_48 : decode cX1_type 48 = .ok (.iload 4, 2) := by decide +kernel
theorem dX1_type_50 : decode cX1_type 50 = .ok (.iaload, 1) := by decide +kernel
theorem dX1_type_51 : decode cX1_type 51 = .ok (.invokevirtual 68, 3) := by decide +kernel
theorem dX1_type_54 : decode cX1_type 54 = .ok (.ifCond .eq 17, 3) := by decide +kernel
theorem dX1_type_57 : decode cX1_type 57 = .ok (.aload_n 0, 1) := by decide +kernel
theorem dX1_type_58 : decode cX1_type 58 = .ok (.getfield 22, 3) := by decide +kernel
theorem dX1_type_61 : decode cX1_type 61 = .ok (.iload 4, 2) := by decide +kernel
theorem dX1_type_63 : decode cX1_type 63 = .ok (.iaload, 1) := by decide +kernel
theorem dX1_type_64 : decode cX1_type 64 = .ok (.ifCond .eq 7, 3) := by decide +kernel
theorem dX1_type_67 : decode cX1_type 67 = .ok (.iconst 1, 1) := by decide +kernel
theorem dX1_type_68 : decode cX1_type 68 = .ok (.goto 4, 3) := by decide +kernel
theorem dX1_type_71 : decode cX1_type 71 = .ok (.iconst 0, 1) := by decide +kernel
theorem dX1_type_72 : decode cX1_type 72 = .ok (.istore_n 3, 1) := by decide +kernel
theorem dX1_type_73 : decode cX1_type 73 = .ok (.iinc 4 1, 3) := by decide +kernel
theorem dX1_type_76 : decode cX1_type 76 = .ok (.goto (-43), 3) := by decide +kernel
theorem dX1_type_79 : decode cX1_type 79 = .ok (.iload_n 3, 1) := by decide +kernel
theorem dX1_type_80 : decode cX1_type 80 = .ok (.ifCond .ne 5, 3) := by decide +kernel
theorem dX1_type_83 : decode cX1_type 83 = .ok (.iconst (-1), 1) := by decide +kernel
theorem dX1_type_84 : decode cX1_type 84 = .ok (.ireturn, 1) := by decide +kernel
theorem dX1_type_85 : decode cX1_type 85 = .ok (.aload_n 0, 1) := by decide +kernel
theorem dX1_type_86 : decode cX1_type 86 = .ok (.iload_n 1, 1) := by decide +kernel
theorem dX1_type_87 : decode cX1_type 87 = .ok (.putfield 57, 3) := by decide +kernel
theorem dX1_type_90 : decode cX1_type 90 = .ok (.aload_n 0, 1) := by decide +kernel
theorem dX1_type_91 : decode cX1_type 91 = .ok (.iload_n 2, 1) := by decide +kernel
theorem dX1_type_92 : decode cX1_type 92 = .ok (.putfield 54, 3) := by decide +kernel
theorem dX1_type_95 : decode cX1_type 95 = .ok (.iconst 0, 1) := by decide +kernel
theorem dX1_type_96 : decode cX1_type 96 = .ok (.istore 4, 2) := by decide +kernel
theorem dX1_type_98 : decode cX1_type 98 = .ok (.iload 4, 2) := by decide +kernel
theorem dX1_type_100 : decode cX1_type 100 = .ok (.iload_n 2, 1) := by decide +kernel
theorem dX1_type_101 : decode cX1_type 101 = .ok (.if_icmp .ge 23, 3) := by decide +kernel
theorem dX1_type_104 : decode cX1_type 104 = .ok (.aload_n 0, 1) := by decide +kernel
theorem dX1_type_105 : decode cX1_type 105 = .ok (.getfield 25, 3) := by decide +kernel
theorem dX1_type_108 : decode cX1_type 108 = .ok (.iload 4, 2) := by decide +kernel
theorem dX1_type_110 : decode cX1_type 110 = .ok (.aload_n 0, 1) := by decide +kernel
theorem dX1_type_111 : decode cX1_type 111 = .ok (.getfield 22, 3) := by decide +kernel
theorem dX1_type_114 : decode cX1_type 114 = .ok (.iload 4, 2) := by decide +kernel
theorem dX1_type_116 : decode cX1_type 116 = .ok (.iaload, 1) := by decide +kernel
theorem dX1_type_117 : decode cX1_type 117 = .ok (.iastore, 1) := by decide +kernel
theorem dX1_type_118 : decode cX1_type 118 = .ok (.iinc 4 1, 3) := by decide +kernel
theorem dX1_type_121 : decode cX1_type 121 = .ok (.goto (-23), 3) := by decide +kernel
theorem dX1_type_124 : decode cX1_type 124 = .ok (.aload_n 0, 1) := by decide +kernel
theorem dX1_type_125 : decode cX1_type 125 = .ok (.invokevirtual 99, 3) := by decide +kernel
theorem dX1_type_128 : decode cX1_type 128 = .ok (.ireturn, 1) := by decide +kernel
abbrev cX1_typeAbout : ByteArray := prog_3_method_26_code
def yX1_typeAbout : MethodName := ⟨RX1, "typeAbout", "(II)I"⟩
theorem dX1_typeAbout_0 : decode cX1_typeAbout 0 = .ok (.aload_n 0, 1) := by decide +kernel
theorem dX1_typeAbout_1 : decode cX1_typeAbout 1 = .ok (.iload_n 1, 1) := by decide +kernel
theorem dX1_typeAbout_2 : decode cX1_typeAbout 2 = .ok (.invokevirtual 103, 3) := by decide +kernel
theorem dX1_typeAbout_5 : decode cX1_typeAbout 5 = .ok (.ifCond .ne 5, 3) := by decide +kernel
theorem dX1_typeAbout_8 : decode cX1_typeAbout 8 = .ok (.iconst (-1), 1) := by decide +kernel
theorem dX1_typeAbout_9 : decode cX1_typeAbout 9 = .ok (.ireturn, 1) := by decide +kernel
theorem dX1_typeAbout_10 : decode cX1_typeAbout 10 = .ok (.iload_n 2, 1) := by decide +kernel
theorem dX1_typeAbout_11 : decode cX1_typeAbout 11 = .ok (.iconst (-1), 1) := by decide +kernel
theorem dX1_typeAbout_12 : decode cX1_typeAbout 12 = .ok (.if_icmp .ne 10, 3) := by decide +kernel
theorem dX1_typeAbout_15 : decode cX1_typeAbout 15 = .ok (.aload_n 0, 1) := by decide +kernel
theorem dX1_typeAbout_16 : decode cX1_typeAbout 16 = .ok (.getfield 13, 3) := by decide +kernel
theorem dX1_typeAbout_19 : decode cX1_typeAbout 19 = .ok (.iload_n 1, 1) := by decide +kernel
theorem dX1_typeAbout_20 : decode cX1_typeAbout 20 = .ok (.iaload, 1) := by decide +kernel
theorem dX1_typeAbout_21 : decode cX1_typeAbout 21 = .ok (.ireturn, 1) := by decide +kernel
theorem dX1_typeAbout_22 : decode cX1_typeAbout 22 = .ok (.iload_n 2, 1) := by decide +kernel
theorem dX1_typeAbout_23 : decode cX1_typeAbout 23 = .ok (.bipush (-2), 2) := by decide +kernel
theorem dX1_typeAbout_25 : decode cX1_typeAbout 25 = .ok (.if_icmp .ne 10, 3) := by decide +kernel
theorem dX1_typeAbout_28 : decode cX1_typeAbout 28 = .ok (.aload_n 0, 1) := by decide +kernel
theorem dX1_typeAbout_29 : decode cX1_typeAbout 29 = .ok (.getfield 16, 3) := by decide +kernel
theorem dX1_typeAbout_32 : decode cX1_typeAbout 32 = .ok (.iload_n 1, 1) := by decide +kernel
theorem dX1_typeAbout_33 : decode cX1_typeAbout 33 = .ok (.iaload, 1) := by decide +kernel
theorem dX1_typeAbout_34 : decode cX1_typeAbout 34 = .ok (.ireturn, 1) := by decide +kernel
theorem dX1_typeAbout_35 : decode cX1_typeAbout 35 = .ok (.iload_n 2, 1) := by decide +kernel
theorem dX1_typeAbout_36 : decode cX1_typeAbout 36 = .ok (.ifCond .lt 27, 3) := by decide +kernel
theorem dX1_typeAbout_39 : decode cX1_typeAbout 39 = .ok (.iload_n 2, 1) := by decide +kernel
theorem dX1_typeAbout_40 : decode cX1_typeAbout 40 = .ok (.aload_n 0, 1) := by decide +kernel
theorem dX1_typeAbout_41 : decode cX1_typeAbout 41 = .ok (.getfield 16, 3) := by decide +kernel
theorem dX1_typeAbout_44 : decode cX1_typeAbout 44 = .ok (.iload_n 1, 1) := by decide +kernel
theorem dX1_typeAbout_45 : decode cX1_typeAbout 45 = .ok (.iaload, 1) := by decide +kernel
theorem dX1_typeAbout_46 : decode cX1_typeAbout 46 = .ok (.if_icmp .ge 17, 3) := by decide +kernel
theorem dX1_typeAbout_49 : decode cX1_typeAbout 49 = .ok (.aload_n 0, 1) := by decide +kernel
theorem dX1_typeAbout_50 : decode cX1_typeAbout 50 = .ok (.getfield 19, 3) := by decide +kernel
theorem dX1_typeAbout_53 : decode cX1_typeAbout 53 = .ok (.bipush 10, 2) := by decide +kernel
theorem dX1_typeAbout_55 : decode cX1_typeAbout 55 = .ok (.iload_n 1, 1) := by decide +kernel
theorem dX1_typeAbout_56 : decode cX1_typeAbout 56 = .ok (.imul, 1) := by decide +kernel
theorem dX1_typeAbout_57 : decode cX1_typeAbout 57 = .ok (.iload_n 2, 1) := by decide +kernel
theorem dX1_typeAbout_58 : decode cX1_typeAbout 58 = .ok (.iadd, 1) := by decide +kernel
theorem dX1_typeAbout_59 : decode cX1_typeAbout 59 = .ok (.iaload, 1) := by decide +kernel
theorem dX1_typeAbout_60 : decode cX1_typeAbout 60 = .ok (.goto 4, 3) := by decide +kernel
theorem dX1_typeAbout_63 : decode cX1_typeAbout 63 = .ok (.iconst (-1), 1) := by decide +kernel
theorem dX1_typeAbout_64 : decode cX1_typeAbout 64 = .ok (.ireturn, 1) := by decide +kernel
abbrev cX1_mayBe : ByteArray := prog_3_method_27_code
def yX1_mayBe : MethodName := ⟨RX1, "mayBe", "(IIZ)Z"⟩
theorem dX1_mayBe_0 : decode cX1_mayBe 0 = .ok (.aload_n 0, 1) := by decide +kernel
theorem dX1_mayBe_1 : decode cX1_mayBe 1 = .ok (.iload_n 1, 1) := by decide +kernel
theorem dX1_mayBe_2 : decode cX1_mayBe 2 = .ok (.invokevirtual 103, 3) := by decide +kernel
theorem dX1_mayBe_5 : decode cX1_mayBe 5 = .ok (.ifCond .eq 26, 3) := by decide +kernel
theorem dX1_mayBe_8 : decode cX1_mayBe 8 = .ok (.aload_n 0, 1) := by decide +kernel
theorem dX1_mayBe_9 : decode cX1_mayBe 9 = .ok (.iload_n 2, 1) := by decide +kernel
theorem dX1_mayBe_10 : decode cX1_mayBe 10 = .ok (.invokevirtual 103, 3) := by decide +kernel
theorem dX1_mayBe_13 : decode cX1_mayBe 13 = .ok (.ifCond .eq 18, 3) := by decide +kernel
theorem dX1_mayBe_16 : decode cX1_mayBe 16 = .ok (.aload_n 0, 1) := by decide +kernel
theorem dX1_mayBe_17 : decode cX1_mayBe 17 = .ok (.getfield 16, 3) := by decide +kernel
theorem dX1_mayBe_20 : decode cX1_mayBe 20 = .ok (.iload_n 1, 1) := by decide +kernel
theorem dX1_mayBe_21 : decode cX1_mayBe 21 = .ok (.iaload, 1) := by decide +kernel
theorem dX1_mayBe_22 : decode cX1_mayBe 22 = .ok (.aload_n 0, 1) := by decide +kernel
theorem dX1_mayBe_23 : decode cX1_mayBe 23 = .ok (.getfield 16, 3) := by decide +kernel
theorem dX1_mayBe_26 : decode cX1_mayBe 26 = .ok (.iload_n 2, 1) := by decide +kernel
theorem dX1_mayBe_27 : decode cX1_mayBe 27 = .ok (.iaload, 1) := by decide +kernel
theorem dX1_mayBe_28 : decode cX1_mayBe 28 = .ok (.if_icmp .eq 5, 3) := by decide +kernel
theorem dX1_mayBe_31 : decode cX1_mayBe 31 = .ok (.iconst 0, 1) := by decide +kernel
theorem dX1_mayBe_32 : decode cX1_mayBe 32 = .ok (.ireturn, 1) := by decide +kernel
theorem dX1_mayBe_33 : decode cX1_mayBe 33 = .ok (.iconst 0, 1) := by decide +kernel
theorem dX1_mayBe_34 : decode cX1_mayBe 34 = .ok (.istore 4, 2) := by decide +kernel
theorem dX1_mayBe_36 : decode cX1_mayBe 36 = .ok (.iload 4, 2) := by decide +kernel
theorem dX1_mayBe_38 : decode cX1_mayBe 38 = .ok (.aload_n 0, 1) := by decide +kernel
theorem dX1_mayBe_39 : decode cX1_mayBe 39 = .ok (.getfield 16, 3) := by decide +kernel
theorem dX1_mayBe_42 : decode cX1_mayBe 42 = .ok (.iload_n 1, 1) := by decide +kernel
theorem dX1_mayBe_43 : decode cX1_mayBe 43 = .ok (.iaload, 1) := by decide +kernel
theorem dX1_mayBe_44 : decode cX1_mayBe 44 = .ok (.if_icmp .ge 44, 3) := by decide +kernel
theorem dX1_mayBe_47 : decode cX1_mayBe 47 = .ok (.aload_n 0, 1) := by decide +kernel
theorem dX1_mayBe_48 : decode cX1_mayBe 48 = .ok (.aload_n 0, 1) := by decide +kernel
theorem dX1_mayBe_49 : decode cX1_mayBe 49 = .ok (.getfield 19, 3) := by decide +kernel
theorem dX1_mayBe_52 : decode cX1_mayBe 52 = .ok (.bipush 10, 2) := by decide +kernel
theorem dX1_mayBe_54 : decode cX1_mayBe 54 = .ok (.iload_n 2, 1) := by decide +kernel
theorem dX1_mayBe_55 : decode cX1_mayBe 55 = .ok (.imul, 1) := by decide +kernel
theorem dX1_mayBe_56 : decode cX1_mayBe 56 = .ok (.iload 4, 2) := by decide +kernel
theorem dX1_mayBe_58 : decode cX1_mayBe 58 = .ok (.iadd, 1) := by decide +kernel
theorem dX1_mayBe_59 : decode cX1_mayBe 59 = .ok (.iaload, 1) := by decide +kernel
theorem dX1_mayBe_60 : decode cX1_mayBe 60 = .ok (.aload_n 0, 1) := by decide +kernel
theorem dX1_mayBe_61 : decode cX1_mayBe 61 = .ok (.getfield 19, 3) := by decide +kernel
theorem dX1_mayBe_64 : decode cX1_mayBe 64 = .ok (.bipush 10, 2) := by decide +kernel
theorem dX1_mayBe_66 : decode cX1_mayBe 66 = .ok (.iload_n 1, 1) := by decide +kernel
theorem dX1_mayBe_67 : decode cX1_mayBe 67 = .ok (.imul, 1) := by decide +kernel
theorem dX1_mayBe_68 : decode cX1_mayBe 68 = .ok (.iload 4, 2) := by decide +kernel
theorem dX1_mayBe_70 : decode cX1_mayBe 70 = .ok (.iadd, 1) := by decide +kernel
theorem dX1_mayBe_71 : decode cX1_mayBe 71 = .ok (.iaload, 1) := by decide +kernel
theorem dX1_mayBe_72 : decode cX1_mayBe 72 = .ok (.iload_n 3, 1) := by decide +kernel
theorem dX1_mayBe_73 : decode cX1_mayBe 73 = .ok (.iconst 0, 1) := by decide +kernel
theorem dX1_mayBe_74 : decode cX1_mayBe 74 = .ok (.invokevirtual 71, 3) := by decide +kernel
theorem dX1_mayBe_77 : decode cX1_mayBe 77 = .ok (.ifCond .ne 5, 3) := by decide +kernel
theorem dX1_mayBe_80 : decode cX1_mayBe 80 = .ok (.iconst 0, 1) := by decide +kernel
theorem dX1_mayBe_81 : decode cX1_mayBe 81 = .ok (.ireturn, 1) := by decide +kernel
theorem dX1_mayBe_82 : decode cX1_mayBe 82 = .ok (.iinc 4 1, 3) := by decide +kernel
theorem dX1_mayBe_85 : decode cX1_mayBe 85 = .ok (.goto (-49), 3) := by decide +kernel
theorem dX1_mayBe_88 : decode cX1_mayBe 88 = .ok (.aload_n 0, 1) := by decide +kernel
theorem dX1_mayBe_89 : decode cX1_mayBe 89 = .ok (.aload_n 0, 1) := by decide +kernel
theorem dX1_mayBe_90 : decode cX1_mayBe 90 = .ok (.getfield 13, 3) := by decide +kernel
theorem dX1_mayBe_93 : decode cX1_mayBe 93 = .ok (.iload_n 1, 1) := by decide +kernel
theorem dX1_mayBe_94 : decode cX1_mayBe 94 = .ok (.iaload, 1) := by decide +kernel
theorem dX1_mayBe_95 : decode cX1_mayBe 95 = .ok (.aload_n 0, 1) := by decide +kernel
theorem dX1_mayBe_96 : decode cX1_mayBe 96 = .ok (.getfield 13, 3) := by decide +kernel
theorem dX1_mayBe_99 : decode cX1_mayBe 99 = .ok (.iload_n 2, 1) := by decide +kernel
theorem dX1_mayBe_100 : decode cX1_mayBe 100 = .ok (.iaload, 1) := by decide +kernel
theorem dX1_mayBe_101 : decode cX1_mayBe 101 = .ok (.iload_n 3, 1) := by decide +kernel
theorem dX1_mayBe_102 : decode cX1_mayBe 102 = .ok (.iconst 1, 1) := by decide +kernel
theorem dX1_mayBe_103 : decode cX1_mayBe 103 = .ok (.invokevirtual 71, 3) := by decide +kernel
theorem dX1_mayBe_106 : decode cX1_mayBe 106 = .ok (.ireturn, 1) := by decide +kernel
abbrev cX1_changed : ByteArray := prog_3_method_28_code
def yX1_changed : MethodName := ⟨RX1, "changed", "(IIII)I"⟩
theorem dX1_changed_0 : decode cX1_changed 0 = .ok (.aload_n 0, 1) := by decide +kernel
theorem dX1_changed_1 : decode cX1_changed 1 = .ok (.iload_n 1, 1) := by decide +kernel
theorem dX1_changed_2 : decode cX1_changed 2 = .ok (.invokevirtual 103, 3) := by decide +kernel
theorem dX1_changed_5 : decode cX1_changed 5 = .ok (.ifCond .eq 36, 3) := by decide +kernel
theorem dX1_changed_8 : decode cX1_changed 8 = .ok (.aload_n 0, 1) := by decide +kernel
theorem dX1_changed_9 : decode cX1_changed 9 = .ok (.iload 4, 2) := by decide +kernel
theorem dX1_changed_11 : decode cX1_changed 11 = .ok (.invokevirtual 103, 3) := by decide +kernel
theorem dX1_changed_14 : decode cX1_changed 14 = .ok (.ifCond .eq 27, 3) := by decide +kernel
theorem dX1_changed_17 : decode cX1_changed 17 = .ok (.iload_n 2, 1) := by decide +kernel
theorem dX1_changed_18 : decode cX1_changed 18 = .ok (.ifCond .lt 23, 3) := by decide +kernel
theorem dX1_changed_21 : decode cX1_changed 21 = .ok (.iload_n 3, 1) := by decide +kernel
theorem dX1_changed_22 : decode cX1_changed 22 = .ok (.ifCond .lt 19, 3) := by decide +kernel
theorem dX1_changed_25 : decode cX1_changed 25 = .ok (.iload_n 2, 1) := by decide +kernel
theorem dX1_changed_26 : decode cX1_changed 26 = .ok (.i2l, 1) := by decide +kernel
theorem dX1_changed_27 : decode cX1_changed 27 = .ok (.iload_n 3, 1) := by decide +kernel
theorem dX1_changed_28 : decode cX1_changed 28 = .ok (.i2l, 1) := by decide +kernel
theorem dX1_changed_29 : decode cX1_changed 29 = .ok (.ladd, 1) := by decide +kernel
theorem dX1_changed_30 : decode cX1_changed 30 = .ok (.aload_n 0, 1) := by decide +kernel
theorem dX1_changed_31 : decode cX1_changed 31 = .ok (.getfield 16, 3) := by decide +kernel
theorem dX1_changed_34 : decode cX1_changed 34 = .ok (.iload_n 1, 1) := by decide +kernel
theorem dX1_changed_35 : decode cX1_changed 35 = .ok (.iaload, 1) := by decide +kernel
theorem dX1_changed_36 : decode cX1_changed 36 = .ok (.i2l, 1) := by decide +kernel
theorem dX1_changed_37 : decode cX1_changed 37 = .ok (.lcmp, 1) := by decide +kernel
theorem dX1_changed_38 : decode cX1_changed 38 = .ok (.ifCond .le 5, 3) := by decide +kernel
theorem dX1_changed_41 : decode cX1_changed 41 = .ok (.iconst (-1), 1) := by decide +kernel
theorem dX1_changed_42 : decode cX1_changed 42 = .ok (.ireturn, 1) := by decide +kernel
theorem dX1_changed_43 : decode cX1_changed 43 = .ok (.aload_n 0, 1) := by decide +kernel
theorem dX1_changed_44 : decode cX1_changed 44 = .ok (.aload_n 0, 1) := by decide +kernel
theorem dX1_changed_45 : decode cX1_changed 45 = .ok (.getfield 13, 3) := by decide +kernel
theorem dX1_changed_48 : decode cX1_changed 48 = .ok (.iload_n 1, 1) := by decide +kernel
theorem dX1_changed_49 : decode cX1_changed 49 = .ok (.iaload, 1) := by decide +kernel
theorem dX1_changed_50 : decode cX1_changed 50 = .ok (.putfield 57, 3) := by decide +kernel
theorem dX1_changed_53 : decode cX1_changed 53 = .ok (.aload_n 0, 1) := by decide +kernel
theorem dX1_changed_54 : decode cX1_changed 54 = .ok (.iconst 0, 1) := by decide +kernel
theorem dX1_changed_55 : decode cX1_changed 55 = .ok (.putfield 54, 3) := by decide +kernel
theorem dX1_changed_58 : decode cX1_changed 58 = .ok (.iconst 0, 1) := by decide +kernel
theorem dX1_changed_59 : decode cX1_changed 59 = .ok (.istore 5, 2) := by decide +kernel
theorem dX1_changed_61 : decode cX1_changed 61 = .ok (.iload 5, 2) := by decide +kernel
theorem dX1_changed_63 : decode cX1_changed 63 = .ok (.iload_n 2, 1) := by decide +kernel
theorem dX1_changed_64 : decode cX1_changed 64 = .ok (.if_icmp .ge 25, 3) := by decide +kernel
theorem dX1_changed_67 : decode cX1_changed 67 = .ok (.aload_n 0, 1) := by decide +kernel
theorem dX1_changed_68 : decode cX1_changed 68 = .ok (.aload_n 0, 1) := by decide +kernel
theorem dX1_changed_69 : decode cX1_changed 69 = .ok (.getfield 19, 3) := by decide +kernel
theorem dX1_changed_72 : decode cX1_changed 72 = .ok (.bipush 10, 2) := by decide +kernel
theorem dX1_changed_74 : decode cX1_changed 74 = .ok (.iload_n 1, 1) := by decide +kernel
theorem dX1_changed_75 : decode cX1_changed 75 = .ok (.imul, 1) := by decide +kernel
theorem dX1_changed_76 : decode cX1_changed 76 = .ok (.iload 5, 2) := by decide +kernel
theorem dX1_changed_78 : decode cX1_changed 78 = .ok (.iadd, 1) := by decide +kernel
theorem dX1_changed_79 : decode cX1_changed 79 = .ok (.iaload, 1) := by decide +kernel
theorem dX1_changed_80 : decode cX1_changed 80 = .ok (.invokevirtual 106, 3) := by decide +kernel
theorem dX1_changed_83 : decode cX1_changed 83 = .ok (.iinc 5 1, 3) := by decide +kernel
theorem dX1_changed_86 : decode cX1_changed 86 = .ok (.goto (-25), 3) := by decide +kernel
theorem dX1_changed_89 : decode cX1_changed 89 = .ok (.iconst 0, 1) := by decide +kernel
theorem dX1_changed_90 : decode cX1_changed 90 = .ok (.istore 5, 2) := by decide +kernel
theorem dX1_changed_92 : decode cX1_changed 92 = .ok (.iload 5, 2) := by decide +kernel
theorem dX1_changed_94 : decode cX1_changed 94 = .ok (.aload_n 0, 1) := by decide +kernel
theorem dX1_changed_95 : decode cX1_changed 95 = .ok (.getfield 16, 3) := by decide +kernel
theorem dX1_changed_98 : decode cX1_changed 98 = .ok (.iload 4, 2) := by decide +kernel
theorem dX1_changed_100 : decode cX1_changed 100 = .ok (.iaload, 1) := by decide +kernel
theorem dX1_changed_101 : decode cX1_changed 101 = .ok (.if_icmp .ge 26, 3) := by decide +kernel
theorem dX1_changed_104 : decode cX1_changed 104 = .ok (.aload_n 0, 1) := by decide +kernel
theorem dX1_changed_105 : decode cX1_changed 105 = .ok (.aload_n 0, 1) := by decide +kernel
theorem dX1_changed_106 : decode cX1_changed 106 = .ok (.getfield 19, 3) := by decide +kernel
theorem dX1_changed_109 : decode cX1_changed 109 = .ok (.bipush 10, 2) := by decide +kernel
theorem dX1_changed_111 : decode cX1_changed 111 = .ok (.iload 4, 2) := by decide +kernel
theorem dX1_changed_113 : decode cX1_changed 113 = .ok (.imul, 1) := by decide +kernel
theorem dX1_changed_114 : decode cX1_changed 114 = .ok (.iload 5, 2) := by decide +kernel
theorem dX1_changed_116 : decode cX1_changed 116 = .ok (.iadd, 1) := by decide +kernel
theorem dX1_changed_117 : decode cX1_changed 117 = .ok (.iaload, 1) := by decide +kernel
theorem dX1_changed_118 : decode cX1_changed 118 = .ok (.invokevirtual 106, 3) := by decide +kernel
theorem dX1_changed_121 : decode cX1_changed 121 = .ok (.iinc 5 1, 3) := by decide +kernel
theorem dX1_changed_124 : decode cX1_changed 124 = .ok (.goto (-32), 3) := by decide +kernel
theorem dX1_changed_127 : decode cX1_changed 127 = .ok (.iload_n 2, 1) := by decide +kernel
theorem dX1_changed_128 : decode cX1_changed 128 = .ok (.iload_n 3, 1) := by decide +kernel
theorem dX1_changed_129 : decode cX1_changed 129 = .ok (.iadd, 1) := by decide +kernel
theorem dX1_changed_130 : decode cX1_changed 130 = .ok (.istore 5, 2) := by decide +kernel
theorem dX1_changed_132 : decode cX1_changed 132 = .ok (.iload 5, 2) := by decide +kernel
theorem dX1_changed_134 : decode cX1_changed 134 = .ok (.aload_n 0, 1) := by decide +kernel
theorem dX1_changed_135 : decode cX1_changed 135 = .ok (.getfield 16, 3) := by decide +kernel
theorem dX1_changed_138 : decode cX1_changed 138 = .ok (.iload_n 1, 1) := by decide +kernel
theorem dX1_changed_139 : decode cX1_changed 139 = .ok (.iaload, 1) := by decide +kernel
theorem dX1_changed_140 : decode cX1_changed 140 = .ok (.if_icmp .ge 25, 3) := by decide +kernel
theorem dX1_changed_143 : decode cX1_changed 143 = .ok (.aload_n 0, 1) := by decide +kernel
theorem dX1_changed_144 : decode cX1_changed 144 = .ok (.aload_n 0, 1) := by decide +kernel
theorem dX1_changed_145 : decode cX1_changed 145 = .ok (.getfield 19, 3) := by decide +kernel
theorem dX1_changed_148 : decode cX1_changed 148 = .ok (.bipush 10, 2) := by decide +kernel
theorem dX1_changed_150 : decode cX1_changed 150 = .ok (.iload_n 1, 1) := by decide +kernel
theorem dX1_changed_151 : decode cX1_changed 151 = .ok (.imul, 1) := by decide +kernel
theorem dX1_changed_152 : decode cX1_changed 152 = .ok (.iload 5, 2) := by decide +kernel
theorem dX1_changed_154 : decode cX1_changed 154 = .ok (.iadd, 1) := by decide +kernel
theorem dX1_changed_155 : decode cX1_changed 155 = .ok (.iaload, 1) := by decide +kernel
theorem dX1_changed_156 : decode cX1_changed 156 = .ok (.invokevirtual 106, 3) := by decide +kernel
theorem dX1_changed_159 : decode cX1_changed 159 = .ok (.iinc 5 1, 3) := by decide +kernel
theorem dX1_changed_162 : decode cX1_changed 162 = .ok (.goto (-30), 3) := by decide +kernel
theorem dX1_changed_165 : decode cX1_changed 165 = .ok (.aload_n 0, 1) := by decide +kernel
theorem dX1_changed_166 : decode cX1_changed 166 = .ok (.invokevirtual 99, 3) := by decide +kernel
theorem dX1_changed_169 : decode cX1_changed 169 = .ok (.ireturn, 1) := by decide +kernel
abbrev cX1_add : ByteArray := prog_3_method_29_code
def yX1_add : MethodName := ⟨RX1, "add", "(I)V"⟩
theorem dX1_add_0 : decode cX1_add 0 = .ok (.aload_n 0, 1) := by decide +kernel
theorem dX1_add_1 : decode cX1_add 1 = .ok (.getfield 25, 3) := by decide +kernel
theorem dX1_add_4 : decode cX1_add 4 = .ok (.aload_n 0, 1) := by decide +kernel
theorem dX1_add_5 : decode cX1_add 5 = .ok (.getfield 54, 3) := by decide +kernel
theorem dX1_add_8 : decode cX1_add 8 = .ok (.iload_n 1, 1) := by decide +kernel
theorem dX1_add_9 : decode cX1_add 9 = .ok (.iastore, 1) := by decide +kernel
theorem dX1_add_10 : decode cX1_add 10 = .ok (.aload_n 0, 1) := by decide +kernel
theorem dX1_add_11 : decode cX1_add 11 = .ok (.dup, 1) := by decide +kernel
theorem dX1_add_12 : decode cX1_add 12 = .ok (.getfield 54, 3) := by decide +kernel
theorem dX1_add_15 : decode cX1_add 15 = .ok (.iconst 1, 1) := by decide +kernel
theorem dX1_add_16 : decode cX1_add 16 = .ok (.iadd, 1) := by decide +kernel
theorem dX1_add_17 : decode cX1_add 17 = .ok (.putfield 54, 3) := by decide +kernel
theorem dX1_add_20 : decode cX1_add 20 = .ok (.return_, 1) := by decide +kernel
end
section
def tbZ : List Cond := lw_tbl.filter goodWord
theorem tb_in : GoodIn tbZ tbZ := fun w hw => ⟨hw, good_of_word (List.mem_filter.mp hw).2⟩
theorem tb_lw : ∀ w ∈ tbZ, w ∈ lw_tbl := fun w hw => (List.mem_filter.mp hw).1
theorem inZ1 : ∀ w ∈ u_ws RX1 TX1 13, w ∈ tbZ := fun w h => List.mem_filter.mpr ⟨inX1 w h, (by decide +kernel : ∀ w ∈ u_ws RX1 TX1 13, goodWord w = true) w h⟩
theorem kgV {big : List Cond} {own C : String} {idx : Nat} {y : MethodName} {c : Cond} (hb : ∀ w ∈ tbZ, w ∈ big) (h1 : Cond.methodLink own idx y ∈ tbZ) (h2 : Cond.instanceMethod y ∈ tbZ) (h3 : Cond.selects C y y ∈ tbZ) (h4 : Cond.initialized C ∈ tbZ) (h5 : c ∈ tbZ) : GoodIn big (wsV own idx C y (c :: tbZ)) := by
  have g : ∀ w ∈ tbZ, w ∈ big ∧ ((w.onTables && w.keeps) = true ∨ ∃ ty, w = .arrayClass ty) := fun w h => ⟨hb w h, (tb_in w h).2⟩
  intro w hw
  rcases List.mem_append.mp hw with q | q
  · simp only [List.mem_cons, List.not_mem_nil, or_false] at q
    rcases q with rfl | rfl | rfl | rfl
    · exact g _ h1
    · exact g _ h2
    · exact g _ h3
    · exact g _ h4
  · rcases List.mem_cons.mp q with rfl | q
    · exact g _ h5
    · exact g _ q
theorem kgS {big : List Cond} {own : String} {idx : Nat} {y : MethodName} {c : Cond} (hb : ∀ w ∈ tbZ, w ∈ big) (h1 : Cond.methodLink own idx y ∈ tbZ) (h2 : Cond.static y ∈ tbZ) (h4 : Cond.initialized own ∈ tbZ) (h5 : c ∈ tbZ) : GoodIn big (wsS own idx y (c :: tbZ)) := by
  have g : ∀ w ∈ tbZ, w ∈ big ∧ ((w.onTables && w.keeps) = true ∨ ∃ ty, w = .arrayClass ty) := fun w h => ⟨hb w h, (tb_in w h).2⟩
  intro w hw
  rcases List.mem_append.mp hw with q | q
  · simp only [List.mem_cons, List.not_mem_nil, or_false] at q
    rcases q with rfl | rfl | rfl
    · exact g _ h1
    · exact g _ h2
    · exact g _ h4
  · rcases List.mem_cons.mp q with rfl | q
    · exact g _ h5
    · exact g _ q
theorem tk_iniM : Cond.initialized RX1 ∈ tbZ := List.mem_filter.mpr ⟨List.mem_of_getElem? (i := 23) (by decide +kernel), rfl⟩
theorem tk_code_isKind : Cond.code yX1_isKind cX1_isKind 2 (some .boolean) ∈ tbZ := List.mem_filter.mpr ⟨List.mem_of_getElem? (i := 254) rfl, rfl⟩
theorem tk_im_isKind : Cond.instanceMethod yX1_isKind ∈ tbZ := List.mem_filter.mpr ⟨List.mem_of_getElem? (i := 253) (by decide +kernel), rfl⟩
theorem tk_se_isKind : Cond.selects RX1 yX1_isKind yX1_isKind ∈ tbZ := List.mem_filter.mpr ⟨List.mem_of_getElem? (i := 12) (by decide +kernel), rfl⟩
def wsZ1_isKind : List Cond := .code yX1_isKind cX1_isKind 2 (some .boolean) :: tbZ
theorem tk_code_isPlain : Cond.code yX1_isPlain cX1_isPlain 1 (some .boolean) ∈ tbZ := List.mem_filter.mpr ⟨List.mem_of_getElem? (i := 280) rfl, rfl⟩
theorem tk_st_isPlain : Cond.static yX1_isPlain ∈ tbZ := List.mem_filter.mpr ⟨List.mem_of_getElem? (i := 279) (by decide +kernel), rfl⟩
def wsZ1_isPlain : List Cond := .code yX1_isPlain cX1_isPlain 1 (some .boolean) :: tbZ
theorem tk_code_isReference : Cond.code yX1_isReference cX1_isReference 1 (some .boolean) ∈ tbZ := List.mem_filter.mpr ⟨List.mem_of_getElem? (i := 265) rfl, rfl⟩
theorem tk_st_isReference : Cond.static yX1_isReference ∈ tbZ := List.mem_filter.mpr ⟨List.mem_of_getElem? (i := 264) (by decide +kernel), rfl⟩
def wsZ1_isReference : List Cond := .code yX1_isReference cX1_isReference 1 (some .boolean) :: tbZ
theorem tk_code_isBox : Cond.code yX1_isBox cX1_isBox 1 (some .boolean) ∈ tbZ := List.mem_filter.mpr ⟨List.mem_of_getElem? (i := 286) rfl, rfl⟩
theorem tk_st_isBox : Cond.static yX1_isBox ∈ tbZ := List.mem_filter.mpr ⟨List.mem_of_getElem? (i := 285) (by decide +kernel), rfl⟩
def wsZ1_isBox : List Cond := .code yX1_isBox cX1_isBox 1 (some .boolean) :: tbZ
theorem tk_code_isBelow : Cond.code yX1_isBelow cX1_isBelow 4 (some .boolean) ∈ tbZ := List.mem_filter.mpr ⟨List.mem_of_getElem? (i := 262) rfl, rfl⟩
theorem tk_im_isBelow : Cond.instanceMethod yX1_isBelow ∈ tbZ := List.mem_filter.mpr ⟨List.mem_of_getElem? (i := 261) (by decide +kernel), rfl⟩
theorem tk_se_isBelow : Cond.selects RX1 yX1_isBelow yX1_isBelow ∈ tbZ := List.mem_filter.mpr ⟨List.mem_of_getElem? (i := 13) (by decide +kernel), rfl⟩
def wsZ1_isBelow : List Cond := .code yX1_isBelow cX1_isBelow 4 (some .boolean) :: tbZ
theorem tk_code_widens : Cond.code yX1_widens cX1_widens 2 (some .boolean) ∈ tbZ := List.mem_filter.mpr ⟨List.mem_of_getElem? (i := 283) rfl, rfl⟩
theorem tk_st_widens : Cond.static yX1_widens ∈ tbZ := List.mem_filter.mpr ⟨List.mem_of_getElem? (i := 282) (by decide +kernel), rfl⟩
def wsZ1_widens : List Cond := .code yX1_widens cX1_widens 2 (some .boolean) :: tbZ
theorem tk_code_mayPass : Cond.code yX1_mayPass cX1_mayPass 5 (some .boolean) ∈ tbZ := List.mem_filter.mpr ⟨List.mem_of_getElem? (i := 277) rfl, rfl⟩
theorem tk_im_mayPass : Cond.instanceMethod yX1_mayPass ∈ tbZ := List.mem_filter.mpr ⟨List.mem_of_getElem? (i := 276) (by decide +kernel), rfl⟩
theorem tk_se_mayPass : Cond.selects RX1 yX1_mayPass yX1_mayPass ∈ tbZ := List.mem_filter.mpr ⟨List.mem_of_getElem? (i := 14) (by decide +kernel), rfl⟩
def wsZ1_mayPass : List Cond := .code yX1_mayPass cX1_mayPass 5 (some .boolean) :: tbZ
theorem tk_code_forcedTo : Cond.code yX1_forcedTo cX1_forcedTo 3 (some .long) ∈ tbZ := List.mem_filter.mpr ⟨List.mem_of_getElem? (i := 297) rfl, rfl⟩
theorem tk_st_forcedTo : Cond.static yX1_forcedTo ∈ tbZ := List.mem_filter.mpr ⟨List.mem_of_getElem? (i := 296) (by decide +kernel), rfl⟩
def wsZ1_forcedTo : List Cond := .code yX1_forcedTo cX1_forcedTo 3 (some .long) :: tbZ
theorem tk_code_findType : Cond.code yX1_findType cX1_findType 6 (some .int) ∈ tbZ := List.mem_filter.mpr ⟨List.mem_of_getElem? (i := 330) rfl, rfl⟩
theorem tk_im_findType : Cond.instanceMethod yX1_findType ∈ tbZ := List.mem_filter.mpr ⟨List.mem_of_getElem? (i := 329) (by decide +kernel), rfl⟩
theorem tk_se_findType : Cond.selects RX1 yX1_findType yX1_findType ∈ tbZ := List.mem_filter.mpr ⟨List.mem_of_getElem? (i := 18) (by decide +kernel), rfl⟩
def wsZ1_findType : List Cond := .code yX1_findType cX1_findType 6 (some .int) :: tbZ
theorem tk_code_madeType : Cond.code yX1_madeType cX1_madeType 3 (some .int) ∈ tbZ := List.mem_filter.mpr ⟨List.mem_of_getElem? (i := 326) rfl, rfl⟩
theorem tk_im_madeType : Cond.instanceMethod yX1_madeType ∈ tbZ := List.mem_filter.mpr ⟨List.mem_of_getElem? (i := 325) (by decide +kernel), rfl⟩
theorem tk_se_madeType : Cond.selects RX1 yX1_madeType yX1_madeType ∈ tbZ := List.mem_filter.mpr ⟨List.mem_of_getElem? (i := 17) (by decide +kernel), rfl⟩
def wsZ1_madeType : List Cond := .code yX1_madeType cX1_madeType 3 (some .int) :: tbZ
theorem tk_code_isType : Cond.code yX1_isType cX1_isType 2 (some .boolean) ∈ tbZ := List.mem_filter.mpr ⟨List.mem_of_getElem? (i := 338) rfl, rfl⟩
theorem tk_im_isType : Cond.instanceMethod yX1_isType ∈ tbZ := List.mem_filter.mpr ⟨List.mem_of_getElem? (i := 337) (by decide +kernel), rfl⟩
theorem tk_se_isType : Cond.selects RX1 yX1_isType yX1_isType ∈ tbZ := List.mem_filter.mpr ⟨List.mem_of_getElem? (i := 19) (by decide +kernel), rfl⟩
def wsZ1_isType : List Cond := .code yX1_isType cX1_isType 2 (some .boolean) :: tbZ
theorem tk_code_isNumber : Cond.code yX1_isNumber cX1_isNumber 3 (some .boolean) ∈ tbZ := List.mem_filter.mpr ⟨List.mem_of_getElem? (i := 294) rfl, rfl⟩
theorem tk_st_isNumber : Cond.static yX1_isNumber ∈ tbZ := List.mem_filter.mpr ⟨List.mem_of_getElem? (i := 293) (by decide +kernel), rfl⟩
def wsZ1_isNumber : List Cond := .code yX1_isNumber cX1_isNumber 3 (some .boolean) :: tbZ
theorem tk_code_isObject : Cond.code yX1_isObject cX1_isObject 2 (some .boolean) ∈ tbZ := List.mem_filter.mpr ⟨List.mem_of_getElem? (i := 306) rfl, rfl⟩
theorem tk_im_isObject : Cond.instanceMethod yX1_isObject ∈ tbZ := List.mem_filter.mpr ⟨List.mem_of_getElem? (i := 305) (by decide +kernel), rfl⟩
theorem tk_se_isObject : Cond.selects RX1 yX1_isObject yX1_isObject ∈ tbZ := List.mem_filter.mpr ⟨List.mem_of_getElem? (i := 16) (by decide +kernel), rfl⟩
def wsZ1_isObject : List Cond := .code yX1_isObject cX1_isObject 2 (some .boolean) :: tbZ
theorem tk_code_newClass : Cond.code yX1_newClass cX1_newClass 2 (some .int) ∈ tbZ := List.mem_filter.mpr ⟨List.mem_of_getElem? (i := 250) rfl, rfl⟩
theorem tk_im_newClass : Cond.instanceMethod yX1_newClass ∈ tbZ := List.mem_filter.mpr ⟨List.mem_of_getElem? (i := 248) (by decide +kernel), rfl⟩
theorem tk_se_newClass : Cond.selects RX1 yX1_newClass yX1_newClass ∈ tbZ := List.mem_filter.mpr ⟨List.mem_of_getElem? (i := 249) (by decide +kernel), rfl⟩
def wsZ1_newClass : List Cond := .code yX1_newClass cX1_newClass 2 (some .int) :: tbZ
theorem tk_code_below : Cond.code yX1_below cX1_below 3 (some .boolean) ∈ tbZ := List.mem_filter.mpr ⟨List.mem_of_getElem? (i := 258) rfl, rfl⟩
theorem tk_im_below : Cond.instanceMethod yX1_below ∈ tbZ := List.mem_filter.mpr ⟨List.mem_of_getElem? (i := 256) (by decide +kernel), rfl⟩
theorem tk_se_below : Cond.selects RX1 yX1_below yX1_below ∈ tbZ := List.mem_filter.mpr ⟨List.mem_of_getElem? (i := 257) (by decide +kernel), rfl⟩
def wsZ1_below : List Cond := .code yX1_below cX1_below 3 (some .boolean) :: tbZ
theorem tk_code_meet : Cond.code yX1_meet cX1_meet 6 (some .int) ∈ tbZ := List.mem_filter.mpr ⟨List.mem_of_getElem? (i := 269) rfl, rfl⟩
theorem tk_im_meet : Cond.instanceMethod yX1_meet ∈ tbZ := List.mem_filter.mpr ⟨List.mem_of_getElem? (i := 267) (by decide +kernel), rfl⟩
theorem tk_se_meet : Cond.selects RX1 yX1_meet yX1_meet ∈ tbZ := List.mem_filter.mpr ⟨List.mem_of_getElem? (i := 268) (by decide +kernel), rfl⟩
def wsZ1_meet : List Cond := .code yX1_meet cX1_meet 6 (some .int) :: tbZ
theorem tk_code_may : Cond.code yX1_may cX1_may 5 (some .boolean) ∈ tbZ := List.mem_filter.mpr ⟨List.mem_of_getElem? (i := 273) rfl, rfl⟩
theorem tk_im_may : Cond.instanceMethod yX1_may ∈ tbZ := List.mem_filter.mpr ⟨List.mem_of_getElem? (i := 271) (by decide +kernel), rfl⟩
theorem tk_se_may : Cond.selects RX1 yX1_may yX1_may ∈ tbZ := List.mem_filter.mpr ⟨List.mem_of_getElem? (i := 272) (by decide +kernel), rfl⟩
def wsZ1_may : List Cond := .code yX1_may cX1_may 5 (some .boolean) :: tbZ
theorem tk_code_kept : Cond.code yX1_kept cX1_kept 4 (some .int) ∈ tbZ := List.mem_filter.mpr ⟨List.mem_of_getElem? (i := 302) rfl, rfl⟩
theorem tk_im_kept : Cond.instanceMethod yX1_kept ∈ tbZ := List.mem_filter.mpr ⟨List.mem_of_getElem? (i := 301) (by decide +kernel), rfl⟩
theorem tk_se_kept : Cond.selects RX1 yX1_kept yX1_kept ∈ tbZ := List.mem_filter.mpr ⟨List.mem_of_getElem? (i := 15) (by decide +kernel), rfl⟩
def wsZ1_kept : List Cond := .code yX1_kept cX1_kept 4 (some .int) :: tbZ
theorem tk_code_pass : Cond.code yX1_pass cX1_pass 7 (some .int) ∈ tbZ := List.mem_filter.mpr ⟨List.mem_of_getElem? (i := 290) rfl, rfl⟩
theorem tk_im_pass : Cond.instanceMethod yX1_pass ∈ tbZ := List.mem_filter.mpr ⟨List.mem_of_getElem? (i := 288) (by decide +kernel), rfl⟩
theorem tk_se_pass : Cond.selects RX1 yX1_pass yX1_pass ∈ tbZ := List.mem_filter.mpr ⟨List.mem_of_getElem? (i := 289) (by decide +kernel), rfl⟩
def wsZ1_pass : List Cond := .code yX1_pass cX1_pass 7 (some .int) :: tbZ
theorem tk_code_kind : Cond.code yX1_kind cX1_kind 1 (some .int) ∈ tbZ := List.mem_filter.mpr ⟨List.mem_of_getElem? (i := 310) rfl, rfl⟩
theorem tk_im_kind : Cond.instanceMethod yX1_kind ∈ tbZ := List.mem_filter.mpr ⟨List.mem_of_getElem? (i := 308) (by decide +kernel), rfl⟩
theorem tk_se_kind : Cond.selects RX1 yX1_kind yX1_kind ∈ tbZ := List.mem_filter.mpr ⟨List.mem_of_getElem? (i := 309) (by decide +kernel), rfl⟩
def wsZ1_kind : List Cond := .code yX1_kind cX1_kind 1 (some .int) :: tbZ
theorem tk_code_number : Cond.code yX1_number cX1_number 1 (some .long) ∈ tbZ := List.mem_filter.mpr ⟨List.mem_of_getElem? (i := 314) rfl, rfl⟩
theorem tk_im_number : Cond.instanceMethod yX1_number ∈ tbZ := List.mem_filter.mpr ⟨List.mem_of_getElem? (i := 312) (by decide +kernel), rfl⟩
theorem tk_se_number : Cond.selects RX1 yX1_number yX1_number ∈ tbZ := List.mem_filter.mpr ⟨List.mem_of_getElem? (i := 313) (by decide +kernel), rfl⟩
def wsZ1_number : List Cond := .code yX1_number cX1_number 1 (some .long) :: tbZ
theorem tk_code_put : Cond.code yX1_put cX1_put 2 (some .boolean) ∈ tbZ := List.mem_filter.mpr ⟨List.mem_of_getElem? (i := 318) rfl, rfl⟩
theorem tk_im_put : Cond.instanceMethod yX1_put ∈ tbZ := List.mem_filter.mpr ⟨List.mem_of_getElem? (i := 316) (by decide +kernel), rfl⟩
theorem tk_se_put : Cond.selects RX1 yX1_put yX1_put ∈ tbZ := List.mem_filter.mpr ⟨List.mem_of_getElem? (i := 317) (by decide +kernel), rfl⟩
def wsZ1_put : List Cond := .code yX1_put cX1_put 2 (some .boolean) :: tbZ
theorem tk_code_type : Cond.code yX1_type cX1_type 5 (some .int) ∈ tbZ := List.mem_filter.mpr ⟨List.mem_of_getElem? (i := 322) rfl, rfl⟩
theorem tk_im_type : Cond.instanceMethod yX1_type ∈ tbZ := List.mem_filter.mpr ⟨List.mem_of_getElem? (i := 320) (by decide +kernel), rfl⟩
theorem tk_se_type : Cond.selects RX1 yX1_type yX1_type ∈ tbZ := List.mem_filter.mpr ⟨List.mem_of_getElem? (i := 321) (by decide +kernel), rfl⟩
def wsZ1_type : List Cond := .code yX1_type cX1_type 5 (some .int) :: tbZ
theorem tk_code_typeAbout : Cond.code yX1_typeAbout cX1_typeAbout 3 (some .int) ∈ tbZ := List.mem_filter.mpr ⟨List.mem_of_getElem? (i := 334) rfl, rfl⟩
theorem tk_im_typeAbout : Cond.instanceMethod yX1_typeAbout ∈ tbZ := List.mem_filter.mpr ⟨List.mem_of_getElem? (i := 332) (by decide +kernel), rfl⟩
theorem tk_se_typeAbout : Cond.selects RX1 yX1_typeAbout yX1_typeAbout ∈ tbZ := List.mem_filter.mpr ⟨List.mem_of_getElem? (i := 333) (by decide +kernel), rfl⟩
def wsZ1_typeAbout : List Cond := .code yX1_typeAbout cX1_typeAbout 3 (some .int) :: tbZ
theorem tk_code_mayBe : Cond.code yX1_mayBe cX1_mayBe 5 (some .boolean) ∈ tbZ := List.mem_filter.mpr ⟨List.mem_of_getElem? (i := 342) rfl, rfl⟩
theorem tk_im_mayBe : Cond.instanceMethod yX1_mayBe ∈ tbZ := List.mem_filter.mpr ⟨List.mem_of_getElem? (i := 340) (by decide +kernel), rfl⟩
theorem tk_se_mayBe : Cond.selects RX1 yX1_mayBe yX1_mayBe ∈ tbZ := List.mem_filter.mpr ⟨List.mem_of_getElem? (i := 341) (by decide +kernel), rfl⟩
def wsZ1_mayBe : List Cond := .code yX1_mayBe cX1_mayBe 5 (some .boolean) :: tbZ
theorem tk_code_changed : Cond.code yX1_changed cX1_changed 6 (some .int) ∈ tbZ := List.mem_filter.mpr ⟨List.mem_of_getElem? (i := 346) rfl, rfl⟩
theorem tk_im_changed : Cond.instanceMethod yX1_changed ∈ tbZ := List.mem_filter.mpr ⟨List.mem_of_getElem? (i := 344) (by decide +kernel), rfl⟩
theorem tk_se_changed : Cond.selects RX1 yX1_changed yX1_changed ∈ tbZ := List.mem_filter.mpr ⟨List.mem_of_getElem? (i := 345) (by decide +kernel), rfl⟩
def wsZ1_changed : List Cond := .code yX1_changed cX1_changed 6 (some .int) :: tbZ
theorem tk_code_add : Cond.code yX1_add cX1_add 2 none ∈ tbZ := List.mem_filter.mpr ⟨List.mem_of_getElem? (i := 350) rfl, rfl⟩
theorem tk_im_add : Cond.instanceMethod yX1_add ∈ tbZ := List.mem_filter.mpr ⟨List.mem_of_getElem? (i := 349) (by decide +kernel), rfl⟩
theorem tk_se_add : Cond.selects RX1 yX1_add yX1_add ∈ tbZ := List.mem_filter.mpr ⟨List.mem_of_getElem? (i := 20) (by decide +kernel), rfl⟩
def wsZ1_add : List Cond := .code yX1_add cX1_add 2 none :: tbZ
theorem tk_cl_49 : Cond.constantLong RX1 49 65535 ∈ tbZ := List.mem_filter.mpr ⟨List.mem_of_getElem? (i := 298) (by decide +kernel), rfl⟩
theorem tk_fl_13 : Cond.fieldLink RX1 13 "KindTableModel" "typeResult" "[I" ∈ tbZ := List.mem_filter.mpr ⟨List.mem_of_getElem? (i := 209) (by decide +kernel), rfl⟩
theorem tk_fl_16 : Cond.fieldLink RX1 16 "KindTableModel" "typeMany" "[I" ∈ tbZ := List.mem_filter.mpr ⟨List.mem_of_getElem? (i := 210) (by decide +kernel), rfl⟩
theorem tk_fl_19 : Cond.fieldLink RX1 19 "KindTableModel" "typePlace" "[I" ∈ tbZ := List.mem_filter.mpr ⟨List.mem_of_getElem? (i := 211) (by decide +kernel), rfl⟩
theorem tk_fl_22 : Cond.fieldLink RX1 22 "KindTableModel" "row" "[I" ∈ tbZ := List.mem_filter.mpr ⟨List.mem_of_getElem? (i := 213) (by decide +kernel), rfl⟩
theorem tk_fl_25 : Cond.fieldLink RX1 25 "KindTableModel" "newPlace" "[I" ∈ tbZ := List.mem_filter.mpr ⟨List.mem_of_getElem? (i := 217) (by decide +kernel), rfl⟩
theorem tk_fl_28 : Cond.fieldLink RX1 28 "KindTableModel" "classes" "I" ∈ tbZ := List.mem_filter.mpr ⟨List.mem_of_getElem? (i := 208) (by decide +kernel), rfl⟩
theorem tk_fl_51 : Cond.fieldLink RX1 51 "KindTableModel" "types" "I" ∈ tbZ := List.mem_filter.mpr ⟨List.mem_of_getElem? (i := 212) (by decide +kernel), rfl⟩
theorem tk_fl_54 : Cond.fieldLink RX1 54 "KindTableModel" "newMany" "I" ∈ tbZ := List.mem_filter.mpr ⟨List.mem_of_getElem? (i := 216) (by decide +kernel), rfl⟩
theorem tk_fl_57 : Cond.fieldLink RX1 57 "KindTableModel" "newResult" "I" ∈ tbZ := List.mem_filter.mpr ⟨List.mem_of_getElem? (i := 215) (by decide +kernel), rfl⟩
theorem tk_fl_7 : Cond.fieldLink RX1 7 "KindTableModel" "parent" "[I" ∈ tbZ := List.mem_filter.mpr ⟨List.mem_of_getElem? (i := 207) (by decide +kernel), rfl⟩
theorem tk_fl_75 : Cond.fieldLink RX1 75 "KindTableModel" "keptKind" "I" ∈ tbZ := List.mem_filter.mpr ⟨List.mem_of_getElem? (i := 218) (by decide +kernel), rfl⟩
theorem tk_fl_78 : Cond.fieldLink RX1 78 "KindTableModel" "keptNumber" "J" ∈ tbZ := List.mem_filter.mpr ⟨List.mem_of_getElem? (i := 219) (by decide +kernel), rfl⟩
theorem tk_fl_96 : Cond.fieldLink RX1 96 "KindTableModel" "rowSize" "I" ∈ tbZ := List.mem_filter.mpr ⟨List.mem_of_getElem? (i := 214) (by decide +kernel), rfl⟩
theorem tk_ml_L_17 : Cond.methodLink RL 17 yX1_newClass ∈ tbZ := List.mem_filter.mpr ⟨List.mem_of_getElem? (i := 247) (by decide +kernel), rfl⟩
theorem gZL_newClass : GoodIn lw_tbl (wsV RL 17 RX1 yX1_newClass wsZ1_newClass) := kgV tb_lw tk_ml_L_17 tk_im_newClass tk_se_newClass tk_iniM tk_code_newClass
theorem tk_ml_L_22 : Cond.methodLink RL 22 yX1_below ∈ tbZ := List.mem_filter.mpr ⟨List.mem_of_getElem? (i := 255) (by decide +kernel), rfl⟩
theorem gZL_below : GoodIn lw_tbl (wsV RL 22 RX1 yX1_below wsZ1_below) := kgV tb_lw tk_ml_L_22 tk_im_below tk_se_below tk_iniM tk_code_below
theorem tk_ml_L_27 : Cond.methodLink RL 27 yX1_meet ∈ tbZ := List.mem_filter.mpr ⟨List.mem_of_getElem? (i := 266) (by decide +kernel), rfl⟩
theorem gZL_meet : GoodIn lw_tbl (wsV RL 27 RX1 yX1_meet wsZ1_meet) := kgV tb_lw tk_ml_L_27 tk_im_meet tk_se_meet tk_iniM tk_code_meet
theorem tk_ml_L_32 : Cond.methodLink RL 32 yX1_may ∈ tbZ := List.mem_filter.mpr ⟨List.mem_of_getElem? (i := 270) (by decide +kernel), rfl⟩
theorem gZL_may : GoodIn lw_tbl (wsV RL 32 RX1 yX1_may wsZ1_may) := kgV tb_lw tk_ml_L_32 tk_im_may tk_se_may tk_iniM tk_code_may
theorem tk_ml_L_39 : Cond.methodLink RL 39 yX1_pass ∈ tbZ := List.mem_filter.mpr ⟨List.mem_of_getElem? (i := 287) (by decide +kernel), rfl⟩
theorem gZL_pass : GoodIn lw_tbl (wsV RL 39 RX1 yX1_pass wsZ1_pass) := kgV tb_lw tk_ml_L_39 tk_im_pass tk_se_pass tk_iniM tk_code_pass
theorem tk_ml_L_44 : Cond.methodLink RL 44 yX1_kind ∈ tbZ := List.mem_filter.mpr ⟨List.mem_of_getElem? (i := 307) (by decide +kernel), rfl⟩
theorem gZL_kind : GoodIn lw_tbl (wsV RL 44 RX1 yX1_kind wsZ1_kind) := kgV tb_lw tk_ml_L_44 tk_im_kind tk_se_kind tk_iniM tk_code_kind
theorem tk_ml_L_49 : Cond.methodLink RL 49 yX1_number ∈ tbZ := List.mem_filter.mpr ⟨List.mem_of_getElem? (i := 311) (by decide +kernel), rfl⟩
theorem gZL_number : GoodIn lw_tbl (wsV RL 49 RX1 yX1_number wsZ1_number) := kgV tb_lw tk_ml_L_49 tk_im_number tk_se_number tk_iniM tk_code_number
theorem tk_ml_L_54 : Cond.methodLink RL 54 yX1_put ∈ tbZ := List.mem_filter.mpr ⟨List.mem_of_getElem? (i := 315) (by decide +kernel), rfl⟩
theorem gZL_put : GoodIn lw_tbl (wsV RL 54 RX1 yX1_put wsZ1_put) := kgV tb_lw tk_ml_L_54 tk_im_put tk_se_put tk_iniM tk_code_put
theorem tk_ml_L_58 : Cond.methodLink RL 58 yX1_type ∈ tbZ := List.mem_filter.mpr ⟨List.mem_of_getElem? (i := 319) (by decide +kernel), rfl⟩
theorem gZL_type : GoodIn lw_tbl (wsV RL 58 RX1 yX1_type wsZ1_type) := kgV tb_lw tk_ml_L_58 tk_im_type tk_se_type tk_iniM tk_code_type
theorem tk_ml_L_62 : Cond.methodLink RL 62 yX1_typeAbout ∈ tbZ := List.mem_filter.mpr ⟨List.mem_of_getElem? (i := 331) (by decide +kernel), rfl⟩
theorem gZL_typeAbout : GoodIn lw_tbl (wsV RL 62 RX1 yX1_typeAbout wsZ1_typeAbout) := kgV tb_lw tk_ml_L_62 tk_im_typeAbout tk_se_typeAbout tk_iniM tk_code_typeAbout
theorem tk_ml_L_67 : Cond.methodLink RL 67 yX1_mayBe ∈ tbZ := List.mem_filter.mpr ⟨List.mem_of_getElem? (i := 339) (by decide +kernel), rfl⟩
theorem gZL_mayBe : GoodIn lw_tbl (wsV RL 67 RX1 yX1_mayBe wsZ1_mayBe) := kgV tb_lw tk_ml_L_67 tk_im_mayBe tk_se_mayBe tk_iniM tk_code_mayBe
theorem tk_ml_L_72 : Cond.methodLink RL 72 yX1_changed ∈ tbZ := List.mem_filter.mpr ⟨List.mem_of_getElem? (i := 343) (by decide +kernel), rfl⟩
theorem gZL_changed : GoodIn lw_tbl (wsV RL 72 RX1 yX1_changed wsZ1_changed) := kgV tb_lw tk_ml_L_72 tk_im_changed tk_se_changed tk_iniM tk_code_changed
theorem tk_ml_X1_103 : Cond.methodLink RX1 103 yX1_isType ∈ tbZ := List.mem_filter.mpr ⟨List.mem_of_getElem? (i := 335) (by decide +kernel), rfl⟩
theorem gZ_changed_isType : GoodIn wsZ1_changed (wsV RX1 103 RX1 yX1_isType wsZ1_isType) := kgV (fun w h => List.mem_cons_of_mem _ h) tk_ml_X1_103 tk_im_isType tk_se_isType tk_iniM tk_code_isType
theorem gZ_mayBe_isType : GoodIn wsZ1_mayBe (wsV RX1 103 RX1 yX1_isType wsZ1_isType) := kgV (fun w h => List.mem_cons_of_mem _ h) tk_ml_X1_103 tk_im_isType tk_se_isType tk_iniM tk_code_isType
theorem gZ_typeAbout_isType : GoodIn wsZ1_typeAbout (wsV RX1 103 RX1 yX1_isType wsZ1_isType) := kgV (fun w h => List.mem_cons_of_mem _ h) tk_ml_X1_103 tk_im_isType tk_se_isType tk_iniM tk_code_isType
theorem tk_ml_X1_106 : Cond.methodLink RX1 106 yX1_add ∈ tbZ := List.mem_filter.mpr ⟨List.mem_of_getElem? (i := 347) (by decide +kernel), rfl⟩
theorem gZ_changed_add : GoodIn wsZ1_changed (wsV RX1 106 RX1 yX1_add wsZ1_add) := kgV (fun w h => List.mem_cons_of_mem _ h) tk_ml_X1_106 tk_im_add tk_se_add tk_iniM tk_code_add
theorem tk_ml_X1_32 : Cond.methodLink RX1 32 yX1_isReference ∈ tbZ := List.mem_filter.mpr ⟨List.mem_of_getElem? (i := 263) (by decide +kernel), rfl⟩
theorem gZ_isBelow_isReference : GoodIn wsZ1_isBelow (wsS RX1 32 yX1_isReference wsZ1_isReference) := kgS (fun w h => List.mem_cons_of_mem _ h) tk_ml_X1_32 tk_st_isReference tk_iniM tk_code_isReference
theorem gZ_mayPass_isReference : GoodIn wsZ1_mayPass (wsS RX1 32 yX1_isReference wsZ1_isReference) := kgS (fun w h => List.mem_cons_of_mem _ h) tk_ml_X1_32 tk_st_isReference tk_iniM tk_code_isReference
theorem gZ_pass_isReference : GoodIn wsZ1_pass (wsS RX1 32 yX1_isReference wsZ1_isReference) := kgS (fun w h => List.mem_cons_of_mem _ h) tk_ml_X1_32 tk_st_isReference tk_iniM tk_code_isReference
theorem tk_ml_X1_36 : Cond.methodLink RX1 36 yX1_isPlain ∈ tbZ := List.mem_filter.mpr ⟨List.mem_of_getElem? (i := 278) (by decide +kernel), rfl⟩
theorem gZ_mayPass_isPlain : GoodIn wsZ1_mayPass (wsS RX1 36 yX1_isPlain wsZ1_isPlain) := kgS (fun w h => List.mem_cons_of_mem _ h) tk_ml_X1_36 tk_st_isPlain tk_iniM tk_code_isPlain
theorem gZ_pass_isPlain : GoodIn wsZ1_pass (wsS RX1 36 yX1_isPlain wsZ1_isPlain) := kgS (fun w h => List.mem_cons_of_mem _ h) tk_ml_X1_36 tk_st_isPlain tk_iniM tk_code_isPlain
theorem tk_ml_X1_39 : Cond.methodLink RX1 39 yX1_widens ∈ tbZ := List.mem_filter.mpr ⟨List.mem_of_getElem? (i := 281) (by decide +kernel), rfl⟩
theorem gZ_mayPass_widens : GoodIn wsZ1_mayPass (wsS RX1 39 yX1_widens wsZ1_widens) := kgS (fun w h => List.mem_cons_of_mem _ h) tk_ml_X1_39 tk_st_widens tk_iniM tk_code_widens
theorem gZ_pass_widens : GoodIn wsZ1_pass (wsS RX1 39 yX1_widens wsZ1_widens) := kgS (fun w h => List.mem_cons_of_mem _ h) tk_ml_X1_39 tk_st_widens tk_iniM tk_code_widens
theorem tk_ml_X1_43 : Cond.methodLink RX1 43 yX1_isBelow ∈ tbZ := List.mem_filter.mpr ⟨List.mem_of_getElem? (i := 259) (by decide +kernel), rfl⟩
theorem gZ_below_isBelow : GoodIn wsZ1_below (wsV RX1 43 RX1 yX1_isBelow wsZ1_isBelow) := kgV (fun w h => List.mem_cons_of_mem _ h) tk_ml_X1_43 tk_im_isBelow tk_se_isBelow tk_iniM tk_code_isBelow
theorem gZ_mayPass_isBelow : GoodIn wsZ1_mayPass (wsV RX1 43 RX1 yX1_isBelow wsZ1_isBelow) := kgV (fun w h => List.mem_cons_of_mem _ h) tk_ml_X1_43 tk_im_isBelow tk_se_isBelow tk_iniM tk_code_isBelow
theorem gZ_meet_isBelow : GoodIn wsZ1_meet (wsV RX1 43 RX1 yX1_isBelow wsZ1_isBelow) := kgV (fun w h => List.mem_cons_of_mem _ h) tk_ml_X1_43 tk_im_isBelow tk_se_isBelow tk_iniM tk_code_isBelow
theorem gZ_pass_isBelow : GoodIn wsZ1_pass (wsV RX1 43 RX1 yX1_isBelow wsZ1_isBelow) := kgV (fun w h => List.mem_cons_of_mem _ h) tk_ml_X1_43 tk_im_isBelow tk_se_isBelow tk_iniM tk_code_isBelow
theorem tk_ml_X1_46 : Cond.methodLink RX1 46 yX1_isBox ∈ tbZ := List.mem_filter.mpr ⟨List.mem_of_getElem? (i := 284) (by decide +kernel), rfl⟩
theorem gZ_mayPass_isBox : GoodIn wsZ1_mayPass (wsS RX1 46 yX1_isBox wsZ1_isBox) := kgS (fun w h => List.mem_cons_of_mem _ h) tk_ml_X1_46 tk_st_isBox tk_iniM tk_code_isBox
theorem gZ_pass_isBox : GoodIn wsZ1_pass (wsS RX1 46 yX1_isBox wsZ1_isBox) := kgS (fun w h => List.mem_cons_of_mem _ h) tk_ml_X1_46 tk_st_isBox tk_iniM tk_code_isBox
theorem tk_ml_X1_60 : Cond.methodLink RX1 60 yX1_findType ∈ tbZ := List.mem_filter.mpr ⟨List.mem_of_getElem? (i := 327) (by decide +kernel), rfl⟩
theorem gZ_madeType_findType : GoodIn wsZ1_madeType (wsV RX1 60 RX1 yX1_findType wsZ1_findType) := kgV (fun w h => List.mem_cons_of_mem _ h) tk_ml_X1_60 tk_im_findType tk_se_findType tk_iniM tk_code_findType
theorem tk_ml_X1_64 : Cond.methodLink RX1 64 yX1_forcedTo ∈ tbZ := List.mem_filter.mpr ⟨List.mem_of_getElem? (i := 295) (by decide +kernel), rfl⟩
theorem gZ_isNumber_forcedTo : GoodIn wsZ1_isNumber (wsS RX1 64 yX1_forcedTo wsZ1_forcedTo) := kgS (fun w h => List.mem_cons_of_mem _ h) tk_ml_X1_64 tk_st_forcedTo tk_iniM tk_code_forcedTo
theorem gZ_pass_forcedTo : GoodIn wsZ1_pass (wsS RX1 64 yX1_forcedTo wsZ1_forcedTo) := kgS (fun w h => List.mem_cons_of_mem _ h) tk_ml_X1_64 tk_st_forcedTo tk_iniM tk_code_forcedTo
theorem tk_ml_X1_68 : Cond.methodLink RX1 68 yX1_isKind ∈ tbZ := List.mem_filter.mpr ⟨List.mem_of_getElem? (i := 251) (by decide +kernel), rfl⟩
theorem gZ_below_isKind : GoodIn wsZ1_below (wsV RX1 68 RX1 yX1_isKind wsZ1_isKind) := kgV (fun w h => List.mem_cons_of_mem _ h) tk_ml_X1_68 tk_im_isKind tk_se_isKind tk_iniM tk_code_isKind
theorem gZ_isObject_isKind : GoodIn wsZ1_isObject (wsV RX1 68 RX1 yX1_isKind wsZ1_isKind) := kgV (fun w h => List.mem_cons_of_mem _ h) tk_ml_X1_68 tk_im_isKind tk_se_isKind tk_iniM tk_code_isKind
theorem gZ_may_isKind : GoodIn wsZ1_may (wsV RX1 68 RX1 yX1_isKind wsZ1_isKind) := kgV (fun w h => List.mem_cons_of_mem _ h) tk_ml_X1_68 tk_im_isKind tk_se_isKind tk_iniM tk_code_isKind
theorem gZ_meet_isKind : GoodIn wsZ1_meet (wsV RX1 68 RX1 yX1_isKind wsZ1_isKind) := kgV (fun w h => List.mem_cons_of_mem _ h) tk_ml_X1_68 tk_im_isKind tk_se_isKind tk_iniM tk_code_isKind
theorem gZ_newClass_isKind : GoodIn wsZ1_newClass (wsV RX1 68 RX1 yX1_isKind wsZ1_isKind) := kgV (fun w h => List.mem_cons_of_mem _ h) tk_ml_X1_68 tk_im_isKind tk_se_isKind tk_iniM tk_code_isKind
theorem gZ_type_isKind : GoodIn wsZ1_type (wsV RX1 68 RX1 yX1_isKind wsZ1_isKind) := kgV (fun w h => List.mem_cons_of_mem _ h) tk_ml_X1_68 tk_im_isKind tk_se_isKind tk_iniM tk_code_isKind
theorem tk_ml_X1_71 : Cond.methodLink RX1 71 yX1_mayPass ∈ tbZ := List.mem_filter.mpr ⟨List.mem_of_getElem? (i := 274) (by decide +kernel), rfl⟩
theorem gZ_may_mayPass : GoodIn wsZ1_may (wsV RX1 71 RX1 yX1_mayPass wsZ1_mayPass) := kgV (fun w h => List.mem_cons_of_mem _ h) tk_ml_X1_71 tk_im_mayPass tk_se_mayPass tk_iniM tk_code_mayPass
theorem gZ_mayBe_mayPass : GoodIn wsZ1_mayBe (wsV RX1 71 RX1 yX1_mayPass wsZ1_mayPass) := kgV (fun w h => List.mem_cons_of_mem _ h) tk_ml_X1_71 tk_im_mayPass tk_se_mayPass tk_iniM tk_code_mayPass
theorem tk_ml_X1_82 : Cond.methodLink RX1 82 yX1_may ∈ tbZ := List.mem_filter.mpr ⟨List.mem_of_getElem? (i := 291) (by decide +kernel), rfl⟩
theorem gZ_pass_may : GoodIn wsZ1_pass (wsV RX1 82 RX1 yX1_may wsZ1_may) := kgV (fun w h => List.mem_cons_of_mem _ h) tk_ml_X1_82 tk_im_may tk_se_may tk_iniM tk_code_may
theorem tk_ml_X1_85 : Cond.methodLink RX1 85 yX1_isNumber ∈ tbZ := List.mem_filter.mpr ⟨List.mem_of_getElem? (i := 292) (by decide +kernel), rfl⟩
theorem gZ_pass_isNumber : GoodIn wsZ1_pass (wsS RX1 85 yX1_isNumber wsZ1_isNumber) := kgS (fun w h => List.mem_cons_of_mem _ h) tk_ml_X1_85 tk_st_isNumber tk_iniM tk_code_isNumber
theorem tk_ml_X1_89 : Cond.methodLink RX1 89 yX1_kept ∈ tbZ := List.mem_filter.mpr ⟨List.mem_of_getElem? (i := 299) (by decide +kernel), rfl⟩
theorem gZ_pass_kept : GoodIn wsZ1_pass (wsV RX1 89 RX1 yX1_kept wsZ1_kept) := kgV (fun w h => List.mem_cons_of_mem _ h) tk_ml_X1_89 tk_im_kept tk_se_kept tk_iniM tk_code_kept
theorem tk_ml_X1_93 : Cond.methodLink RX1 93 yX1_isObject ∈ tbZ := List.mem_filter.mpr ⟨List.mem_of_getElem? (i := 303) (by decide +kernel), rfl⟩
theorem gZ_pass_isObject : GoodIn wsZ1_pass (wsV RX1 93 RX1 yX1_isObject wsZ1_isObject) := kgV (fun w h => List.mem_cons_of_mem _ h) tk_ml_X1_93 tk_im_isObject tk_se_isObject tk_iniM tk_code_isObject
theorem tk_ml_X1_99 : Cond.methodLink RX1 99 yX1_madeType ∈ tbZ := List.mem_filter.mpr ⟨List.mem_of_getElem? (i := 323) (by decide +kernel), rfl⟩
theorem gZ_changed_madeType : GoodIn wsZ1_changed (wsV RX1 99 RX1 yX1_madeType wsZ1_madeType) := kgV (fun w h => List.mem_cons_of_mem _ h) tk_ml_X1_99 tk_im_madeType tk_se_madeType tk_iniM tk_code_madeType
theorem gZ_type_madeType : GoodIn wsZ1_type (wsV RX1 99 RX1 yX1_madeType wsZ1_madeType) := kgV (fun w h => List.mem_cons_of_mem _ h) tk_ml_X1_99 tk_im_madeType tk_se_madeType tk_iniM tk_code_madeType
end
section
def fX_isPlain  (x0 : Int32) : Bool := if x0 < (1 : Int32) then false else if (6 : Int32) < x0 then false else true
set_option maxHeartbeats 4000000 in
set_option maxRecDepth 100000 in
theorem cX_isPlain (l : Launch) (x0 : Int32) : Met l yX0_isPlain wsX0_isPlain ({ frames := 0, cells := 0, slots := 0, locals := 0 }) (kPs [.int x0]) (k2_QcV (.int (bI (fX_isPlain x0)))) 0 0 kNo := by
  refine Met.ofW (cc := cX0_isPlain) (maxL := 1) (ret := (some .boolean)) (by decide) rfl ?_
  intro p e s m args below meth c s₁ B hml hv
  obtain rfl : args = ([.int x0] : List Value).toArray := hv
  have hx := B.exec
  have hb := B.bytes
  have hr := B.returns
  have hts := atoms_spec (ws := wsX0_isPlain) B.pre
  have hown : s.vm.findClass RX0 = some m.cls := findClass_of_methodNamed B.named
  have hlocks := B.notSynchronized
  have hl := lv_entry ([.int x0]) (n := 1) (Nat.le_of_ble_eq_true rfl)
  rw [lg_entry_eq]
  generalize (lg_sl ([.int x0]) ++ List.replicate (1 - (lg_sl ([.int x0])).length) Slot.unset).toArray = ls at hl ⊢
  have hl : lv_has ls 1 [(0, .int x0)] := hl
  refine lv_iload_n hx hb dX0_isPlain_0 rfl (lv_at hl 0 rfl) ?_
  refine lv_iconst (v := 1) hx hb dX0_isPlain_1 (by decide) ?_
  refine lv_icmp_lt (tgt := 15) hx hb dX0_isPlain_2 (by decide) (fun c2 => ?_) (fun c2 => ?_)
  · refine lv_iconst (v := 0) hx hb dX0_isPlain_15 (by decide) ?_
    exact W.zret hx hb hr rfl (fun t ht hW => ⟨by rw [fX_isPlain, if_pos c2] <;> rfl, ht⟩) (fun _ h => by cases h) dX0_isPlain_16
  · refine lv_iload_n hx hb dX0_isPlain_5 rfl (lv_at hl 0 rfl) ?_
    refine lv_bipush (v := 6) hx hb dX0_isPlain_6 (by decide) ?_
    refine lv_icmp_gt (tgt := 15) hx hb dX0_isPlain_8 (by decide) (fun c8 => ?_) (fun c8 => ?_)
    · refine lv_iconst (v := 0) hx hb dX0_isPlain_15 (by decide) ?_
      exact W.zret hx hb hr rfl (fun t ht hW => ⟨by rw [fX_isPlain, if_neg c2, if_pos c8] <;> rfl, ht⟩) (fun _ h => by cases h) dX0_isPlain_16
    · refine lv_iconst (v := 1) hx hb dX0_isPlain_11 (by decide) ?_
      refine lv_goto (tgt := 16) hx hb dX0_isPlain_12 (by decide) ?_
      exact W.zret hx hb hr rfl (fun t ht hW => ⟨by rw [fX_isPlain, if_neg c2, if_neg c8] <;> rfl, ht⟩) (fun _ h => by cases h) dX0_isPlain_16
def fX_isBox  (x0 : Int32) : Bool := if x0 < (9 : Int32) then false else if (14 : Int32) < x0 then false else true
set_option maxHeartbeats 4000000 in
set_option maxRecDepth 100000 in
theorem cX_isBox (l : Launch) (x0 : Int32) : Met l yX0_isBox wsX0_isBox ({ frames := 0, cells := 0, slots := 0, locals := 0 }) (kPs [.int x0]) (k2_QcV (.int (bI (fX_isBox x0)))) 0 0 kNo := by
  refine Met.ofW (cc := cX0_isBox) (maxL := 1) (ret := (some .boolean)) (by decide) rfl ?_
  intro p e s m args below meth c s₁ B hml hv
  obtain rfl : args = ([.int x0] : List Value).toArray := hv
  have hx := B.exec
  have hb := B.bytes
  have hr := B.returns
  have hts := atoms_spec (ws := wsX0_isBox) B.pre
  have hown : s.vm.findClass RX0 = some m.cls := findClass_of_methodNamed B.named
  have hlocks := B.notSynchronized
  have hl := lv_entry ([.int x0]) (n := 1) (Nat.le_of_ble_eq_true rfl)
  rw [lg_entry_eq]
  generalize (lg_sl ([.int x0]) ++ List.replicate (1 - (lg_sl ([.int x0])).length) Slot.unset).toArray = ls at hl ⊢
  have hl : lv_has ls 1 [(0, .int x0)] := hl
  refine lv_iload_n hx hb dX0_isBox_0 rfl (lv_at hl 0 rfl) ?_
  refine lv_bipush (v := 9) hx hb dX0_isBox_1 (by decide) ?_
  refine lv_icmp_lt (tgt := 16) hx hb dX0_isBox_3 (by decide) (fun c3 => ?_) (fun c3 => ?_)
  · refine lv_iconst (v := 0) hx hb dX0_isBox_16 (by decide) ?_
    exact W.zret hx hb hr rfl (fun t ht hW => ⟨by rw [fX_isBox, if_pos c3] <;> rfl, ht⟩) (fun _ h => by cases h) dX0_isBox_17
  · refine lv_iload_n hx hb dX0_isBox_6 rfl (lv_at hl 0 rfl) ?_
    refine lv_bipush (v := 14) hx hb dX0_isBox_7 (by decide) ?_
    refine lv_icmp_gt (tgt := 16) hx hb dX0_isBox_9 (by decide) (fun c9 => ?_) (fun c9 => ?_)
    · refine lv_iconst (v := 0) hx hb dX0_isBox_16 (by decide) ?_
      exact W.zret hx hb hr rfl (fun t ht hW => ⟨by rw [fX_isBox, if_neg c3, if_pos c9] <;> rfl, ht⟩) (fun _ h => by cases h) dX0_isBox_17
    · refine lv_iconst (v := 1) hx hb dX0_isBox_12 (by decide) ?_
      refine lv_goto (tgt := 17) hx hb dX0_isBox_13 (by decide) ?_
      exact W.zret hx hb hr rfl (fun t ht hW => ⟨by rw [fX_isBox, if_neg c3, if_neg c9] <;> rfl, ht⟩) (fun _ h => by cases h) dX0_isBox_17
def fX_isOfNumbers  (x0 : Int32) : Bool := if x0 = (2 : Int32) then true else if x0 = (3 : Int32) then true else if x0 = (5 : Int32) then true else if x0 = (6 : Int32) then true else false
set_option maxHeartbeats 4000000 in
set_option maxRecDepth 100000 in
theorem cX_isOfNumbers (l : Launch) (x0 : Int32) : Met l yX0_isOfNumbers wsX0_isOfNumbers ({ frames := 0, cells := 0, slots := 0, locals := 0 }) (kPs [.int x0]) (k2_QcV (.int (bI (fX_isOfNumbers x0)))) 0 0 kNo := by
  refine Met.ofW (cc := cX0_isOfNumbers) (maxL := 1) (ret := (some .boolean)) (by decide) rfl ?_
  intro p e s m args below meth c s₁ B hml hv
  obtain rfl : args = ([.int x0] : List Value).toArray := hv
  have hx := B.exec
  have hb := B.bytes
  have hr := B.returns
  have hts := atoms_spec (ws := wsX0_isOfNumbers) B.pre
  have hown : s.vm.findClass RX0 = some m.cls := findClass_of_methodNamed B.named
  have hlocks := B.notSynchronized
  have hl := lv_entry ([.int x0]) (n := 1) (Nat.le_of_ble_eq_true rfl)
  rw [lg_entry_eq]
  generalize (lg_sl ([.int x0]) ++ List.replicate (1 - (lg_sl ([.int x0])).length) Slot.unset).toArray = ls at hl ⊢
  have hl : lv_has ls 1 [(0, .int x0)] := hl
  refine lv_iload_n hx hb dX0_isOfNumbers_0 rfl (lv_at hl 0 rfl) ?_
  refine lv_iconst (v := 2) hx hb dX0_isOfNumbers_1 (by decide) ?_
  refine lv_icmp_eq (tgt := 21) hx hb dX0_isOfNumbers_2 (by decide) (fun c2 => ?_) (fun c2 => ?_)
  · refine lv_iconst (v := 1) hx hb dX0_isOfNumbers_21 (by decide) ?_
    refine lv_goto (tgt := 26) hx hb dX0_isOfNumbers_22 (by decide) ?_
    exact W.zret hx hb hr rfl (fun t ht hW => ⟨by rw [fX_isOfNumbers, if_pos c2] <;> rfl, ht⟩) (fun _ h => by cases h) dX0_isOfNumbers_26
  · refine lv_iload_n hx hb dX0_isOfNumbers_5 rfl (lv_at hl 0 rfl) ?_
    refine lv_iconst (v := 3) hx hb dX0_isOfNumbers_6 (by decide) ?_
    refine lv_icmp_eq (tgt := 21) hx hb dX0_isOfNumbers_7 (by decide) (fun c7 => ?_) (fun c7 => ?_)
    · refine lv_iconst (v := 1) hx hb dX0_isOfNumbers_21 (by decide) ?_
      refine lv_goto (tgt := 26) hx hb dX0_isOfNumbers_22 (by decide) ?_
      exact W.zret hx hb hr rfl (fun t ht hW => ⟨by rw [fX_isOfNumbers, if_neg c2, if_pos c7] <;> rfl, ht⟩) (fun _ h => by cases h) dX0_isOfNumbers_26
    · refine lv_iload_n hx hb dX0_isOfNumbers_10 rfl (lv_at hl 0 rfl) ?_
      refine lv_iconst (v := 5) hx hb dX0_isOfNumbers_11 (by decide) ?_
      refine lv_icmp_eq (tgt := 21) hx hb dX0_isOfNumbers_12 (by decide) (fun c12 => ?_) (fun c12 => ?_)
      · refine lv_iconst (v := 1) hx hb dX0_isOfNumbers_21 (by decide) ?_
        refine lv_goto (tgt := 26) hx hb dX0_isOfNumbers_22 (by decide) ?_
        exact W.zret hx hb hr rfl (fun t ht hW => ⟨by rw [fX_isOfNumbers, if_neg c2, if_neg c7, if_pos c12] <;> rfl, ht⟩) (fun _ h => by cases h) dX0_isOfNumbers_26
      · refine lv_iload_n hx hb dX0_isOfNumbers_15 rfl (lv_at hl 0 rfl) ?_
        refine lv_bipush (v := 6) hx hb dX0_isOfNumbers_16 (by decide) ?_
        refine lv_icmp_ne (tgt := 25) hx hb dX0_isOfNumbers_18 (by decide) (fun c18 => ?_) (fun c18 => ?_)
        · refine lv_iconst (v := 0) hx hb dX0_isOfNumbers_25 (by decide) ?_
          exact W.zret hx hb hr rfl (fun t ht hW => ⟨by rw [fX_isOfNumbers, if_neg c2, if_neg c7, if_neg c12, if_neg c18] <;> rfl, ht⟩) (fun _ h => by cases h) dX0_isOfNumbers_26
        · refine lv_iconst (v := 1) hx hb dX0_isOfNumbers_21 (by decide) ?_
          refine lv_goto (tgt := 26) hx hb dX0_isOfNumbers_22 (by decide) ?_
          exact W.zret hx hb hr rfl (fun t ht hW => ⟨by rw [fX_isOfNumbers, if_neg c2, if_neg c7, if_neg c12, if_pos c18] <;> rfl, ht⟩) (fun _ h => by cases h) dX0_isOfNumbers_26
def fX_mayWiden  (x0 : Int32) (x1 : Int32) : Bool := if x0 = x1 then true else if x0 = (2 : Int32) then if x1 = (3 : Int32) then true else if x1 = (5 : Int32) then true else if x1 = (6 : Int32) then true else false else if x0 = (3 : Int32) then if x1 = (5 : Int32) then true else if x1 = (6 : Int32) then true else false else if x0 = (4 : Int32) then if x1 = (5 : Int32) then true else if x1 = (6 : Int32) then true else false else if x0 = (5 : Int32) then if x1 = (6 : Int32) then true else false else false
set_option maxHeartbeats 4000000 in
set_option maxRecDepth 100000 in
theorem cX_mayWiden (l : Launch) (x0 : Int32) (x1 : Int32) : Met l yX0_mayWiden wsX0_mayWiden ({ frames := 0, cells := 0, slots := 0, locals := 0 }) (kPs [.int x0, .int x1]) (k2_QcV (.int (bI (fX_mayWiden x0 x1)))) 0 0 kNo := by
  refine Met.ofW (cc := cX0_mayWiden) (maxL := 2) (ret := (some .boolean)) (by decide) rfl ?_
  intro p e s m args below meth c s₁ B hml hv
  obtain rfl : args = ([.int x0, .int x1] : List Value).toArray := hv
  have hx := B.exec
  have hb := B.bytes
  have hr := B.returns
  have hts := atoms_spec (ws := wsX0_mayWiden) B.pre
  have hown : s.vm.findClass RX0 = some m.cls := findClass_of_methodNamed B.named
  have hlocks := B.notSynchronized
  have hl := lv_entry ([.int x0, .int x1]) (n := 2) (Nat.le_of_ble_eq_true rfl)
  rw [lg_entry_eq]
  generalize (lg_sl ([.int x0, .int x1]) ++ List.replicate (2 - (lg_sl ([.int x0, .int x1])).length) Slot.unset).toArray = ls at hl ⊢
  have hl : lv_has ls 2 [(0, .int x0), (1, .int x1)] := hl
  refine lv_iload_n hx hb dX0_mayWiden_0 rfl (lv_at hl 0 rfl) ?_
  refine lv_iload_n hx hb dX0_mayWiden_1 rfl (lv_at hl 1 rfl) ?_
  refine lv_icmp_ne (tgt := 7) hx hb dX0_mayWiden_2 (by decide) (fun c2 => ?_) (fun c2 => ?_)
  · refine lv_iload_n hx hb dX0_mayWiden_7 rfl (lv_at hl 0 rfl) ?_
    by_cases c8_2 : x0 = (2 : Int32)
    · refine lv_tableIn (tgt := 40) hx hb dX0_mayWiden_8 (by rw [c8_2]; decide) (by rw [c8_2]; decide) (off := 32) (by rw [c8_2]; decide) (by decide) ?_
      refine lv_iload_n hx hb dX0_mayWiden_40 rfl (lv_at hl 1 rfl) ?_
      refine lv_iconst (v := 3) hx hb dX0_mayWiden_41 (by decide) ?_
      refine lv_icmp_eq (tgt := 56) hx hb dX0_mayWiden_42 (by decide) (fun c42 => ?_) (fun c42 => ?_)
      · refine lv_iconst (v := 1) hx hb dX0_mayWiden_56 (by decide) ?_
        refine lv_goto (tgt := 61) hx hb dX0_mayWiden_57 (by decide) ?_
        exact W.zret hx hb hr rfl (fun t ht hW => ⟨by rw [fX_mayWiden, if_neg c2, if_pos c8_2, if_pos c42] <;> rfl, ht⟩) (fun _ h => by cases h) dX0_mayWiden_61
      · refine lv_iload_n hx hb dX0_mayWiden_45 rfl (lv_at hl 1 rfl) ?_
        refine lv_iconst (v := 5) hx hb dX0_mayWiden_46 (by decide) ?_
        refine lv_icmp_eq (tgt := 56) hx hb dX0_mayWiden_47 (by decide) (fun c47 => ?_) (fun c47 => ?_)
        · refine lv_iconst (v := 1) hx hb dX0_mayWiden_56 (by decide) ?_
          refine lv_goto (tgt := 61) hx hb dX0_mayWiden_57 (by decide) ?_
          exact W.zret hx hb hr rfl (fun t ht hW => ⟨by rw [fX_mayWiden, if_neg c2, if_pos c8_2, if_neg c42, if_pos c47] <;> rfl, ht⟩) (fun _ h => by cases h) dX0_mayWiden_61
        · refine lv_iload_n hx hb dX0_mayWiden_50 rfl (lv_at hl 1 rfl) ?_
          refine lv_bipush (v := 6) hx hb dX0_mayWiden_51 (by decide) ?_
          refine lv_icmp_ne (tgt := 60) hx hb dX0_mayWiden_53 (by decide) (fun c53 => ?_) (fun c53 => ?_)
          · refine lv_iconst (v := 0) hx hb dX0_mayWiden_60 (by decide) ?_
            exact W.zret hx hb hr rfl (fun t ht hW => ⟨by rw [fX_mayWiden, if_neg c2, if_pos c8_2, if_neg c42, if_neg c47, if_neg c53] <;> rfl, ht⟩) (fun _ h => by cases h) dX0_mayWiden_61
          · refine lv_iconst (v := 1) hx hb dX0_mayWiden_56 (by decide) ?_
            refine lv_goto (tgt := 61) hx hb dX0_mayWiden_57 (by decide) ?_
            exact W.zret hx hb hr rfl (fun t ht hW => ⟨by rw [fX_mayWiden, if_neg c2, if_pos c8_2, if_neg c42, if_neg c47, if_pos c53] <;> rfl, ht⟩) (fun _ h => by cases h) dX0_mayWiden_61
    by_cases c8_3 : x0 = (3 : Int32)
    · refine lv_tableIn (tgt := 62) hx hb dX0_mayWiden_8 (by rw [c8_3]; decide) (by rw [c8_3]; decide) (off := 54) (by rw [c8_3]; decide) (by decide) ?_
      refine lv_iload_n hx hb dX0_mayWiden_62 rfl (lv_at hl 1 rfl) ?_
      refine lv_iconst (v := 5) hx hb dX0_mayWiden_63 (by decide) ?_
      refine lv_icmp_eq (tgt := 73) hx hb dX0_mayWiden_64 (by decide) (fun c64 => ?_) (fun c64 => ?_)
      · refine lv_iconst (v := 1) hx hb dX0_mayWiden_73 (by decide) ?_
        refine lv_goto (tgt := 78) hx hb dX0_mayWiden_74 (by decide) ?_
        exact W.zret hx hb hr rfl (fun t ht hW => ⟨by rw [fX_mayWiden, if_neg c2, if_neg c8_2, if_pos c8_3, if_pos c64] <;> rfl, ht⟩) (fun _ h => by cases h) dX0_mayWiden_78
      · refine lv_iload_n hx hb dX0_mayWiden_67 rfl (lv_at hl 1 rfl) ?_
        refine lv_bipush (v := 6) hx hb dX0_mayWiden_68 (by decide) ?_
        refine lv_icmp_ne (tgt := 77) hx hb dX0_mayWiden_70 (by decide) (fun c70 => ?_) (fun c70 => ?_)
        · refine lv_iconst (v := 0) hx hb dX0_mayWiden_77 (by decide) ?_
          exact W.zret hx hb hr rfl (fun t ht hW => ⟨by rw [fX_mayWiden, if_neg c2, if_neg c8_2, if_pos c8_3, if_neg c64, if_neg c70] <;> rfl, ht⟩) (fun _ h => by cases h) dX0_mayWiden_78
        · refine lv_iconst (v := 1) hx hb dX0_mayWiden_73 (by decide) ?_
          refine lv_goto (tgt := 78) hx hb dX0_mayWiden_74 (by decide) ?_
          exact W.zret hx hb hr rfl (fun t ht hW => ⟨by rw [fX_mayWiden, if_neg c2, if_neg c8_2, if_pos c8_3, if_neg c64, if_pos c70] <;> rfl, ht⟩) (fun _ h => by cases h) dX0_mayWiden_78
    by_cases c8_4 : x0 = (4 : Int32)
    · refine lv_tableIn (tgt := 62) hx hb dX0_mayWiden_8 (by rw [c8_4]; decide) (by rw [c8_4]; decide) (off := 54) (by rw [c8_4]; decide) (by decide) ?_
      refine lv_iload_n hx hb dX0_mayWiden_62 rfl (lv_at hl 1 rfl) ?_
      refine lv_iconst (v := 5) hx hb dX0_mayWiden_63 (by decide) ?_
      refine lv_icmp_eq (tgt := 73) hx hb dX0_mayWiden_64 (by decide) (fun c64 => ?_) (fun c64 => ?_)
      · refine lv_iconst (v := 1) hx hb dX0_mayWiden_73 (by decide) ?_
        refine lv_goto (tgt := 78) hx hb dX0_mayWiden_74 (by decide) ?_
        exact W.zret hx hb hr rfl (fun t ht hW => ⟨by rw [fX_mayWiden, if_neg c2, if_neg c8_2, if_neg c8_3, if_pos c8_4, if_pos c64] <;> rfl, ht⟩) (fun _ h => by cases h) dX0_mayWiden_78
      · refine lv_iload_n hx hb dX0_mayWiden_67 rfl (lv_at hl 1 rfl) ?_
        refine lv_bipush (v := 6) hx hb dX0_mayWiden_68 (by decide) ?_
        refine lv_icmp_ne (tgt := 77) hx hb dX0_mayWiden_70 (by decide) (fun c70 => ?_) (fun c70 => ?_)
        · refine lv_iconst (v := 0) hx hb dX0_mayWiden_77 (by decide) ?_
          exact W.zret hx hb hr rfl (fun t ht hW => ⟨by rw [fX_mayWiden, if_neg c2, if_neg c8_2, if_neg c8_3, if_pos c8_4, if_neg c64, if_neg c70] <;> rfl, ht⟩) (fun _ h => by cases h) dX0_mayWiden_78
        · refine lv_iconst (v := 1) hx hb dX0_mayWiden_73 (by decide) ?_
          refine lv_goto (tgt := 78) hx hb dX0_mayWiden_74 (by decide) ?_
          exact W.zret hx hb hr rfl (fun t ht hW => ⟨by rw [fX_mayWiden, if_neg c2, if_neg c8_2, if_neg c8_3, if_pos c8_4, if_neg c64, if_pos c70] <;> rfl, ht⟩) (fun _ h => by cases h) dX0_mayWiden_78
    by_cases c8_5 : x0 = (5 : Int32)
    · refine lv_tableIn (tgt := 79) hx hb dX0_mayWiden_8 (by rw [c8_5]; decide) (by rw [c8_5]; decide) (off := 71) (by rw [c8_5]; decide) (by decide) ?_
      refine lv_iload_n hx hb dX0_mayWiden_79 rfl (lv_at hl 1 rfl) ?_
      refine lv_bipush (v := 6) hx hb dX0_mayWiden_80 (by decide) ?_
      refine lv_icmp_ne (tgt := 89) hx hb dX0_mayWiden_82 (by decide) (fun c82 => ?_) (fun c82 => ?_)
      · refine lv_iconst (v := 0) hx hb dX0_mayWiden_89 (by decide) ?_
        exact W.zret hx hb hr rfl (fun t ht hW => ⟨by rw [fX_mayWiden, if_neg c2, if_neg c8_2, if_neg c8_3, if_neg c8_4, if_pos c8_5, if_neg c82] <;> rfl, ht⟩) (fun _ h => by cases h) dX0_mayWiden_90
      · refine lv_iconst (v := 1) hx hb dX0_mayWiden_85 (by decide) ?_
        refine lv_goto (tgt := 90) hx hb dX0_mayWiden_86 (by decide) ?_
        exact W.zret hx hb hr rfl (fun t ht hW => ⟨by rw [fX_mayWiden, if_neg c2, if_neg c8_2, if_neg c8_3, if_neg c8_4, if_pos c8_5, if_pos c82] <;> rfl, ht⟩) (fun _ h => by cases h) dX0_mayWiden_90
    refine lv_tableOut (tgt := 91) hx hb dX0_mayWiden_8 (by have h2 := lv_neT c8_2 (a := 2) (by decide); have h3 := lv_neT c8_3 (a := 3) (by decide); have h4 := lv_neT c8_4 (a := 4) (by decide); have h5 := lv_neT c8_5 (a := 5) (by decide); omega) (by decide) ?_
    refine lv_iconst (v := 0) hx hb dX0_mayWiden_91 (by decide) ?_
    exact W.zret hx hb hr rfl (fun t ht hW => ⟨by rw [fX_mayWiden, if_neg c2, if_neg c8_2, if_neg c8_3, if_neg c8_4, if_neg c8_5] <;> rfl, ht⟩) (fun _ h => by cases h) dX0_mayWiden_92
  · refine lv_iconst (v := 1) hx hb dX0_mayWiden_5 (by decide) ?_
    exact W.zret hx hb hr rfl (fun t ht hW => ⟨by rw [fX_mayWiden, if_pos c2] <;> rfl, ht⟩) (fun _ h => by cases h) dX0_mayWiden_6
def fX_mayUnbox  (x0 : Int32) (x1 : Int32) : Bool := if x0 = (7 : Int32) then true else if x0 = (8 : Int32) then (fX_isOfNumbers x1) else if (bI (fX_isBox x0)) = 0 then false else if (bI (fX_mayWiden (x0 - (8 : Int32)) x1)) = 0 then false else true
set_option maxHeartbeats 4000000 in
set_option maxRecDepth 100000 in
theorem cX_mayUnbox (l : Launch) (x0 : Int32) (x1 : Int32) : Met l yX0_mayUnbox wsX0_mayUnbox ({ frames := 1, cells := 0, slots := 0, locals := 21 }) (kPs [.int x0, .int x1]) (k2_QcV (.int (bI (fX_mayUnbox x0 x1)))) 0 0 kNo := by
  refine Met.ofW (cc := cX0_mayUnbox) (maxL := 2) (ret := (some .boolean)) (by decide) rfl ?_
  intro p e s m args below meth c s₁ B hml hv
  obtain rfl : args = ([.int x0, .int x1] : List Value).toArray := hv
  have hx := B.exec
  have hb := B.bytes
  have hr := B.returns
  have hts := atoms_spec (ws := wsX0_mayUnbox) B.pre
  have hown : s.vm.findClass RX0 = some m.cls := findClass_of_methodNamed B.named
  have hlocks := B.notSynchronized
  have hl := lv_entry ([.int x0, .int x1]) (n := 2) (Nat.le_of_ble_eq_true rfl)
  rw [lg_entry_eq]
  generalize (lg_sl ([.int x0, .int x1]) ++ List.replicate (2 - (lg_sl ([.int x0, .int x1])).length) Slot.unset).toArray = ls at hl ⊢
  have hl : lv_has ls 2 [(0, .int x0), (1, .int x1)] := hl
  refine lv_iload_n hx hb dX0_mayUnbox_0 rfl (lv_at hl 0 rfl) ?_
  refine lv_bipush (v := 7) hx hb dX0_mayUnbox_1 (by decide) ?_
  refine lv_icmp_ne (tgt := 8) hx hb dX0_mayUnbox_3 (by decide) (fun c3 => ?_) (fun c3 => ?_)
  · refine lv_iload_n hx hb dX0_mayUnbox_8 rfl (lv_at hl 0 rfl) ?_
    refine lv_bipush (v := 8) hx hb dX0_mayUnbox_9 (by decide) ?_
    refine lv_icmp_ne (tgt := 19) hx hb dX0_mayUnbox_11 (by decide) (fun c11 => ?_) (fun c11 => ?_)
    · refine lv_iload_n hx hb dX0_mayUnbox_19 rfl (lv_at hl 0 rfl) ?_
      refine kc_S [.int x0] [] ⟨hx, hb, hml, hown, hts⟩ (cX_isBox l x0) (cwS 1 hts gX0_mayUnbox_X0_isBox rfl rfl rfl (by decide +kernel) ⟨(Nat.le_of_ble_eq_true rfl), (Nat.le_of_ble_eq_true rfl)⟩) rfl hl.1 rfl (Nat.le_of_ble_eq_true rfl) dX0_mayUnbox_20 ⟨Nat.zero_le _, Nat.zero_le _⟩ ?_
      refine lv_if_eq (tgt := 41) hx hb dX0_mayUnbox_23 (by decide) (fun c23 => ?_) (fun c23 => ?_)
      · refine lv_iconst (v := 0) hx hb dX0_mayUnbox_41 (by decide) ?_
        exact W.zret hx hb hr rfl (fun t ht hW => ⟨by rw [fX_mayUnbox, if_neg c3, if_neg c11, if_pos c23] <;> rfl, ht⟩) (fun _ h => by cases h) dX0_mayUnbox_42
      · refine lv_iload_n hx hb dX0_mayUnbox_26 rfl (lv_at hl 0 rfl) ?_
        refine lv_bipush (v := 8) hx hb dX0_mayUnbox_27 (by decide) ?_
        refine lv_isub hx hb dX0_mayUnbox_29 ?_
        refine lv_iload_n hx hb dX0_mayUnbox_30 rfl (lv_at hl 1 rfl) ?_
        refine kc_S [.int (x0 - (8 : Int32)), .int x1] [] ⟨hx, hb, hml, hown, hts⟩ (cX_mayWiden l (x0 - (8 : Int32)) x1) (cwS 2 hts gX0_mayUnbox_X0_mayWiden rfl rfl rfl (by decide +kernel) ⟨(Nat.le_of_ble_eq_true rfl), (Nat.le_of_ble_eq_true rfl)⟩) rfl hl.1 rfl (Nat.le_of_ble_eq_true rfl) dX0_mayUnbox_31 ⟨Nat.zero_le _, Nat.zero_le _⟩ ?_
        refine lv_if_eq (tgt := 41) hx hb dX0_mayUnbox_34 (by decide) (fun c34 => ?_) (fun c34 => ?_)
        · refine lv_iconst (v := 0) hx hb dX0_mayUnbox_41 (by decide) ?_
          exact W.zret hx hb hr rfl (fun t ht hW => ⟨by rw [fX_mayUnbox, if_neg c3, if_neg c11, if_neg c23, if_pos c34] <;> rfl, ht⟩) (fun _ h => by cases h) dX0_mayUnbox_42
        · refine lv_iconst (v := 1) hx hb dX0_mayUnbox_37 (by decide) ?_
          refine lv_goto (tgt := 42) hx hb dX0_mayUnbox_38 (by decide) ?_
          exact W.zret hx hb hr rfl (fun t ht hW => ⟨by rw [fX_mayUnbox, if_neg c3, if_neg c11, if_neg c23, if_neg c34] <;> rfl, ht⟩) (fun _ h => by cases h) dX0_mayUnbox_42
    · refine lv_iload_n hx hb dX0_mayUnbox_14 rfl (lv_at hl 1 rfl) ?_
      refine kc_S [.int x1] [] ⟨hx, hb, hml, hown, hts⟩ (cX_isOfNumbers l x1) (cwS 1 hts gX0_mayUnbox_X0_isOfNumbers rfl rfl rfl (by decide +kernel) ⟨(Nat.le_of_ble_eq_true rfl), (Nat.le_of_ble_eq_true rfl)⟩) rfl hl.1 rfl (Nat.le_of_ble_eq_true rfl) dX0_mayUnbox_15 ⟨Nat.zero_le _, Nat.zero_le _⟩ ?_
      exact W.zret hx hb hr (bI_nar (fX_isOfNumbers x1)) (fun t ht hW => ⟨by rw [fX_mayUnbox, if_neg c3, if_pos c11] <;> rfl, ht⟩) (fun _ h => by cases h) dX0_mayUnbox_18
  · refine lv_iconst (v := 1) hx hb dX0_mayUnbox_6 (by decide) ?_
    exact W.zret hx hb hr rfl (fun t ht hW => ⟨by rw [fX_mayUnbox, if_pos c3] <;> rfl, ht⟩) (fun _ h => by cases h) dX0_mayUnbox_7
def fX_lowest  (x0 : Int32) (x1 : Int64) : Int64 := if x0 = (1 : Int32) then x1 &&& (1 : Int64) else if x0 = (2 : Int32) then x1.toInt32.toInt8.toInt32.toInt64 else if x0 = (3 : Int32) then x1.toInt32.toInt16.toInt32.toInt64 else if x0 = (4 : Int32) then ((x1.toInt32.toUInt32 % 65536).toInt32).toInt64 else if x0 = (5 : Int32) then x1.toInt32.toInt64 else x1
set_option maxHeartbeats 4000000 in
set_option maxRecDepth 100000 in
theorem cX_lowest (l : Launch) (x0 : Int32) (x1 : Int64) : Met l yX0_lowest wsX0_lowest ({ frames := 0, cells := 0, slots := 0, locals := 0 }) (kPs [.int x0, .long x1]) (k2_QcV (.long (fX_lowest x0 x1))) 0 0 kNo := by
  refine Met.ofW (cc := cX0_lowest) (maxL := 3) (ret := (some .long)) (by decide) rfl ?_
  intro p e s m args below meth c s₁ B hml hv
  obtain rfl : args = ([.int x0, .long x1] : List Value).toArray := hv
  have hx := B.exec
  have hb := B.bytes
  have hr := B.returns
  have hts := atoms_spec (ws := wsX0_lowest) B.pre
  have hown : s.vm.findClass RX0 = some m.cls := findClass_of_methodNamed B.named
  have hlocks := B.notSynchronized
  have hl := lv_entry ([.int x0, .long x1]) (n := 3) (Nat.le_of_ble_eq_true rfl)
  rw [lg_entry_eq]
  generalize (lg_sl ([.int x0, .long x1]) ++ List.replicate (3 - (lg_sl ([.int x0, .long x1])).length) Slot.unset).toArray = ls at hl ⊢
  have hl : lv_has ls 3 [(0, .int x0), (1, .long x1)] := hl
  refine lv_iload_n hx hb dX0_lowest_0 rfl (lv_at hl 0 rfl) ?_
  by_cases c1_1 : x0 = (1 : Int32)
  · refine lv_tableIn (tgt := 36) hx hb dX0_lowest_1 (by rw [c1_1]; decide) (by rw [c1_1]; decide) (off := 35) (by rw [c1_1]; decide) (by decide) ?_
    refine lv_lload_n hx hb dX0_lowest_36 rfl (lv_at hl 1 rfl) ?_
    refine lv_lconst (v := 1) hx hb dX0_lowest_37 (by decide) ?_
    refine lv_land hx hb dX0_lowest_38 ?_
    exact W.lret hx hb hr (fun t ht hW => ⟨by rw [fX_lowest, if_pos c1_1] <;> rfl, ht⟩) (fun _ h => by cases h) dX0_lowest_39
  by_cases c1_2 : x0 = (2 : Int32)
  · refine lv_tableIn (tgt := 40) hx hb dX0_lowest_1 (by rw [c1_2]; decide) (by rw [c1_2]; decide) (off := 39) (by rw [c1_2]; decide) (by decide) ?_
    refine lv_lload_n hx hb dX0_lowest_40 rfl (lv_at hl 1 rfl) ?_
    refine lv_l2i hx hb dX0_lowest_41 rfl ?_
    refine lv_i2b hx hb dX0_lowest_42 rfl ?_
    refine lv_i2l hx hb dX0_lowest_43 rfl ?_
    exact W.lret hx hb hr (fun t ht hW => ⟨by rw [fX_lowest, if_neg c1_1, if_pos c1_2] <;> rfl, ht⟩) (fun _ h => by cases h) dX0_lowest_44
  by_cases c1_3 : x0 = (3 : Int32)
  · refine lv_tableIn (tgt := 45) hx hb dX0_lowest_1 (by rw [c1_3]; decide) (by rw [c1_3]; decide) (off := 44) (by rw [c1_3]; decide) (by decide) ?_
    refine lv_lload_n hx hb dX0_lowest_45 rfl (lv_at hl 1 rfl) ?_
    refine lv_l2i hx hb dX0_lowest_46 rfl ?_
    refine lv_i2s hx hb dX0_lowest_47 rfl ?_
    refine lv_i2l hx hb dX0_lowest_48 rfl ?_
    exact W.lret hx hb hr (fun t ht hW => ⟨by rw [fX_lowest, if_neg c1_1, if_neg c1_2, if_pos c1_3] <;> rfl, ht⟩) (fun _ h => by cases h) dX0_lowest_49
  by_cases c1_4 : x0 = (4 : Int32)
  · refine lv_tableIn (tgt := 50) hx hb dX0_lowest_1 (by rw [c1_4]; decide) (by rw [c1_4]; decide) (off := 49) (by rw [c1_4]; decide) (by decide) ?_
    refine lv_lload_n hx hb dX0_lowest_50 rfl (lv_at hl 1 rfl) ?_
    refine lv_l2i hx hb dX0_lowest_51 rfl ?_
    refine lv_i2c hx hb dX0_lowest_52 rfl ?_
    refine lv_i2l hx hb dX0_lowest_53 rfl ?_
    exact W.lret hx hb hr (fun t ht hW => ⟨by rw [fX_lowest, if_neg c1_1, if_neg c1_2, if_neg c1_3, if_pos c1_4] <;> rfl, ht⟩) (fun _ h => by cases h) dX0_lowest_54
  by_cases c1_5 : x0 = (5 : Int32)
  · refine lv_tableIn (tgt := 55) hx hb dX0_lowest_1 (by rw [c1_5]; decide) (by rw [c1_5]; decide) (off := 54) (by rw [c1_5]; decide) (by decide) ?_
    refine lv_lload_n hx hb dX0_lowest_55 rfl (lv_at hl 1 rfl) ?_
    refine lv_l2i hx hb dX0_lowest_56 rfl ?_
    refine lv_i2l hx hb dX0_lowest_57 rfl ?_
    exact W.lret hx hb hr (fun t ht hW => ⟨by rw [fX_lowest, if_neg c1_1, if_neg c1_2, if_neg c1_3, if_neg c1_4, if_pos c1_5] <;> rfl, ht⟩) (fun _ h => by cases h) dX0_lowest_58
  refine lv_tableOut (tgt := 59) hx hb dX0_lowest_1 (by have h1 := lv_neT c1_1 (a := 1) (by decide); have h2 := lv_neT c1_2 (a := 2) (by decide); have h3 := lv_neT c1_3 (a := 3) (by decide); have h4 := lv_neT c1_4 (a := 4) (by decide); have h5 := lv_neT c1_5 (a := 5) (by decide); omega) (by decide) ?_
  refine lv_lload_n hx hb dX0_lowest_59 rfl (lv_at hl 1 rfl) ?_
  exact W.lret hx hb hr (fun t ht hW => ⟨by rw [fX_lowest, if_neg c1_1, if_neg c1_2, if_neg c1_3, if_neg c1_4, if_neg c1_5] <;> rfl, ht⟩) (fun _ h => by cases h) dX0_lowest_60
def fX_fits  (x0 : Int32) (x1 : Int64) : Bool := if (lg_cmp (fX_lowest x0 x1) x1) = 0 then true else false
set_option maxHeartbeats 4000000 in
set_option maxRecDepth 100000 in
theorem cX_fits (l : Launch) (x0 : Int32) (x1 : Int64) : Met l yX0_fits wsX0_fits ({ frames := 1, cells := 0, slots := 0, locals := 22 }) (kPs [.int x0, .long x1]) (k2_QcV (.int (bI (fX_fits x0 x1)))) 0 0 kNo := by
  refine Met.ofW (cc := cX0_fits) (maxL := 3) (ret := (some .boolean)) (by decide) rfl ?_
  intro p e s m args below meth c s₁ B hml hv
  obtain rfl : args = ([.int x0, .long x1] : List Value).toArray := hv
  have hx := B.exec
  have hb := B.bytes
  have hr := B.returns
  have hts := atoms_spec (ws := wsX0_fits) B.pre
  have hown : s.vm.findClass RX0 = some m.cls := findClass_of_methodNamed B.named
  have hlocks := B.notSynchronized
  have hl := lv_entry ([.int x0, .long x1]) (n := 3) (Nat.le_of_ble_eq_true rfl)
  rw [lg_entry_eq]
  generalize (lg_sl ([.int x0, .long x1]) ++ List.replicate (3 - (lg_sl ([.int x0, .long x1])).length) Slot.unset).toArray = ls at hl ⊢
  have hl : lv_has ls 3 [(0, .int x0), (1, .long x1)] := hl
  refine lv_iload_n hx hb dX0_fits_0 rfl (lv_at hl 0 rfl) ?_
  refine lv_lload_n hx hb dX0_fits_1 rfl (lv_at hl 1 rfl) ?_
  refine kc_S [.int x0, .long x1] [] ⟨hx, hb, hml, hown, hts⟩ (cX_lowest l x0 x1) (cwS 2 hts gX0_fits_X0_lowest rfl rfl rfl (by decide +kernel) ⟨(Nat.le_of_ble_eq_true rfl), (Nat.le_of_ble_eq_true rfl)⟩) rfl hl.1 rfl (Nat.le_of_ble_eq_true rfl) dX0_fits_2 ⟨Nat.zero_le _, Nat.zero_le _⟩ ?_
  refine lv_lload_n hx hb dX0_fits_5 rfl (lv_at hl 1 rfl) ?_
  refine W.lcmp hx hb dX0_fits_6 ?_
  refine lv_if_ne (tgt := 14) hx hb dX0_fits_7 (by decide) (fun c7 => ?_) (fun c7 => ?_)
  · refine lv_iconst (v := 0) hx hb dX0_fits_14 (by decide) ?_
    exact W.zret hx hb hr rfl (fun t ht hW => ⟨by rw [fX_fits, if_neg c7] <;> rfl, ht⟩) (fun _ h => by cases h) dX0_fits_15
  · refine lv_iconst (v := 1) hx hb dX0_fits_10 (by decide) ?_
    refine lv_goto (tgt := 15) hx hb dX0_fits_11 (by decide) ?_
    exact W.zret hx hb hr rfl (fun t ht hW => ⟨by rw [fX_fits, if_pos c7] <;> rfl, ht⟩) (fun _ h => by cases h) dX0_fits_15
def fX_firstAbove  (x0 : Int32) : Int32 := if x0 ≤ (7 : Int32) then if (bI (fX_isBox x0)) = 0 then (1 : Int32) <<< (x0 &&& 31) else if (bI (fX_isOfNumbers (x0 - (8 : Int32)))) = 0 then (1 : Int32) <<< (x0 &&& 31) else ((1 : Int32) <<< (x0 &&& 31)) ||| (256 : Int32) else if (bI (fX_isBox x0)) = 0 then ((1 : Int32) <<< (x0 &&& 31)) ||| (128 : Int32) else if (bI (fX_isOfNumbers (x0 - (8 : Int32)))) = 0 then ((1 : Int32) <<< (x0 &&& 31)) ||| (128 : Int32) else (((1 : Int32) <<< (x0 &&& 31)) ||| (128 : Int32)) ||| (256 : Int32)
set_option maxHeartbeats 4000000 in
set_option maxRecDepth 100000 in
theorem cX_firstAbove (l : Launch) (x0 : Int32) : Met l yX0_firstAbove wsX0_firstAbove ({ frames := 1, cells := 0, slots := 0, locals := 20 }) (kPs [.int x0]) (k2_QcV (.int (fX_firstAbove x0))) 0 0 kNo := by
  refine Met.ofW (cc := cX0_firstAbove) (maxL := 2) (ret := (some .int)) (by decide) rfl ?_
  intro p e s m args below meth c s₁ B hml hv
  obtain rfl : args = ([.int x0] : List Value).toArray := hv
  have hx := B.exec
  have hb := B.bytes
  have hr := B.returns
  have hts := atoms_spec (ws := wsX0_firstAbove) B.pre
  have hown : s.vm.findClass RX0 = some m.cls := findClass_of_methodNamed B.named
  have hlocks := B.notSynchronized
  have hl := lv_entry ([.int x0]) (n := 2) (Nat.le_of_ble_eq_true rfl)
  rw [lg_entry_eq]
  generalize (lg_sl ([.int x0]) ++ List.replicate (2 - (lg_sl ([.int x0])).length) Slot.unset).toArray = ls at hl ⊢
  have hl : lv_has ls 2 [(0, .int x0)] := hl
  refine lv_iconst (v := 1) hx hb dX0_firstAbove_0 (by decide) ?_
  refine lv_iload_n hx hb dX0_firstAbove_1 rfl (lv_at hl 0 rfl) ?_
  refine lv_ishl hx hb dX0_firstAbove_2 ?_
  refine lv_istore_n (lv' := [(1, .int ((1 : Int32) <<< (x0 &&& 31))), (0, .int x0)]) hx hb dX0_firstAbove_3 rfl hl (by decide) rfl (fun ls hl => ?_)
  refine lv_iload_n hx hb dX0_firstAbove_4 rfl (lv_at hl 1 rfl) ?_
  refine lv_bipush (v := 7) hx hb dX0_firstAbove_5 (by decide) ?_
  refine lv_icmp_le (tgt := 16) hx hb dX0_firstAbove_7 (by decide) (fun c7 => ?_) (fun c7 => ?_)
  · refine lv_iload_n hx hb dX0_firstAbove_16 rfl (lv_at hl 1 rfl) ?_
    refine kc_S [.int x0] [] ⟨hx, hb, hml, hown, hts⟩ (cX_isBox l x0) (cwS 1 hts gX0_firstAbove_X0_isBox rfl rfl rfl (by decide +kernel) ⟨(Nat.le_of_ble_eq_true rfl), (Nat.le_of_ble_eq_true rfl)⟩) rfl hl.1 rfl (Nat.le_of_ble_eq_true rfl) dX0_firstAbove_17 ⟨Nat.zero_le _, Nat.zero_le _⟩ ?_
    refine lv_if_eq (tgt := 39) hx hb dX0_firstAbove_20 (by decide) (fun c20 => ?_) (fun c20 => ?_)
    · refine lv_iload_n hx hb dX0_firstAbove_39 rfl (lv_at hl 0 rfl) ?_
      exact W.iret hx hb hr (fun t ht hW => ⟨by rw [fX_firstAbove, if_pos c7, if_pos c20] <;> rfl, ht⟩) (fun _ h => by cases h) dX0_firstAbove_40
    · refine lv_iload_n hx hb dX0_firstAbove_23 rfl (lv_at hl 1 rfl) ?_
      refine lv_bipush (v := 8) hx hb dX0_firstAbove_24 (by decide) ?_
      refine lv_isub hx hb dX0_firstAbove_26 ?_
      refine kc_S [.int (x0 - (8 : Int32))] [] ⟨hx, hb, hml, hown, hts⟩ (cX_isOfNumbers l (x0 - (8 : Int32))) (cwS 1 hts gX0_firstAbove_X0_isOfNumbers rfl rfl rfl (by decide +kernel) ⟨(Nat.le_of_ble_eq_true rfl), (Nat.le_of_ble_eq_true rfl)⟩) rfl hl.1 rfl (Nat.le_of_ble_eq_true rfl) dX0_firstAbove_27 ⟨Nat.zero_le _, Nat.zero_le _⟩ ?_
      refine lv_if_eq (tgt := 39) hx hb dX0_firstAbove_30 (by decide) (fun c30 => ?_) (fun c30 => ?_)
      · refine lv_iload_n hx hb dX0_firstAbove_39 rfl (lv_at hl 0 rfl) ?_
        exact W.iret hx hb hr (fun t ht hW => ⟨by rw [fX_firstAbove, if_pos c7, if_neg c20, if_pos c30] <;> rfl, ht⟩) (fun _ h => by cases h) dX0_firstAbove_40
      · refine lv_iload_n hx hb dX0_firstAbove_33 rfl (lv_at hl 0 rfl) ?_
        refine lv_sipush (v := 256) hx hb dX0_firstAbove_34 (by decide) ?_
        refine lv_ior hx hb dX0_firstAbove_37 ?_
        refine lv_istore_n (lv' := [(1, .int (((1 : Int32) <<< (x0 &&& 31)) ||| (256 : Int32))), (0, .int x0)]) hx hb dX0_firstAbove_38 rfl hl (by decide) rfl (fun ls hl => ?_)
        refine lv_iload_n hx hb dX0_firstAbove_39 rfl (lv_at hl 0 rfl) ?_
        exact W.iret hx hb hr (fun t ht hW => ⟨by rw [fX_firstAbove, if_pos c7, if_neg c20, if_neg c30] <;> rfl, ht⟩) (fun _ h => by cases h) dX0_firstAbove_40
  · refine lv_iload_n hx hb dX0_firstAbove_10 rfl (lv_at hl 0 rfl) ?_
    refine lv_sipush (v := 128) hx hb dX0_firstAbove_11 (by decide) ?_
    refine lv_ior hx hb dX0_firstAbove_14 ?_
    refine lv_istore_n (lv' := [(1, .int (((1 : Int32) <<< (x0 &&& 31)) ||| (128 : Int32))), (0, .int x0)]) hx hb dX0_firstAbove_15 rfl hl (by decide) rfl (fun ls hl => ?_)
    refine lv_iload_n hx hb dX0_firstAbove_16 rfl (lv_at hl 1 rfl) ?_
    refine kc_S [.int x0] [] ⟨hx, hb, hml, hown, hts⟩ (cX_isBox l x0) (cwS 1 hts gX0_firstAbove_X0_isBox rfl rfl rfl (by decide +kernel) ⟨(Nat.le_of_ble_eq_true rfl), (Nat.le_of_ble_eq_true rfl)⟩) rfl hl.1 rfl (Nat.le_of_ble_eq_true rfl) dX0_firstAbove_17 ⟨Nat.zero_le _, Nat.zero_le _⟩ ?_
    refine lv_if_eq (tgt := 39) hx hb dX0_firstAbove_20 (by decide) (fun c20 => ?_) (fun c20 => ?_)
    · refine lv_iload_n hx hb dX0_firstAbove_39 rfl (lv_at hl 0 rfl) ?_
      exact W.iret hx hb hr (fun t ht hW => ⟨by rw [fX_firstAbove, if_neg c7, if_pos c20] <;> rfl, ht⟩) (fun _ h => by cases h) dX0_firstAbove_40
    · refine lv_iload_n hx hb dX0_firstAbove_23 rfl (lv_at hl 1 rfl) ?_
      refine lv_bipush (v := 8) hx hb dX0_firstAbove_24 (by decide) ?_
      refine lv_isub hx hb dX0_firstAbove_26 ?_
      refine kc_S [.int (x0 - (8 : Int32))] [] ⟨hx, hb, hml, hown, hts⟩ (cX_isOfNumbers l (x0 - (8 : Int32))) (cwS 1 hts gX0_firstAbove_X0_isOfNumbers rfl rfl rfl (by decide +kernel) ⟨(Nat.le_of_ble_eq_true rfl), (Nat.le_of_ble_eq_true rfl)⟩) rfl hl.1 rfl (Nat.le_of_ble_eq_true rfl) dX0_firstAbove_27 ⟨Nat.zero_le _, Nat.zero_le _⟩ ?_
      refine lv_if_eq (tgt := 39) hx hb dX0_firstAbove_30 (by decide) (fun c30 => ?_) (fun c30 => ?_)
      · refine lv_iload_n hx hb dX0_firstAbove_39 rfl (lv_at hl 0 rfl) ?_
        exact W.iret hx hb hr (fun t ht hW => ⟨by rw [fX_firstAbove, if_neg c7, if_neg c20, if_pos c30] <;> rfl, ht⟩) (fun _ h => by cases h) dX0_firstAbove_40
      · refine lv_iload_n hx hb dX0_firstAbove_33 rfl (lv_at hl 0 rfl) ?_
        refine lv_sipush (v := 256) hx hb dX0_firstAbove_34 (by decide) ?_
        refine lv_ior hx hb dX0_firstAbove_37 ?_
        refine lv_istore_n (lv' := [(1, .int ((((1 : Int32) <<< (x0 &&& 31)) ||| (128 : Int32)) ||| (256 : Int32))), (0, .int x0)]) hx hb dX0_firstAbove_38 rfl hl (by decide) rfl (fun ls hl => ?_)
        refine lv_iload_n hx hb dX0_firstAbove_39 rfl (lv_at hl 0 rfl) ?_
        exact W.iret hx hb hr (fun t ht hW => ⟨by rw [fX_firstAbove, if_neg c7, if_neg c20, if_neg c30] <;> rfl, ht⟩) (fun _ h => by cases h) dX0_firstAbove_40
def fX_resultOf  (x0 : Int64) : Int32 := (x0 &&& (31 : Int64)).toInt32
set_option maxHeartbeats 4000000 in
set_option maxRecDepth 100000 in
theorem cX_resultOf (l : Launch) (x0 : Int64) : Met l yX0_resultOf wsX0_resultOf ({ frames := 0, cells := 0, slots := 0, locals := 0 }) (kPs [.long x0]) (k2_QcV (.int (fX_resultOf x0))) 0 0 kNo := by
  refine Met.ofW (cc := cX0_resultOf) (maxL := 2) (ret := (some .int)) (by decide) rfl ?_
  intro p e s m args below meth c s₁ B hml hv
  obtain rfl : args = ([.long x0] : List Value).toArray := hv
  have hx := B.exec
  have hb := B.bytes
  have hr := B.returns
  have hts := atoms_spec (ws := wsX0_resultOf) B.pre
  have hown : s.vm.findClass RX0 = some m.cls := findClass_of_methodNamed B.named
  have hlocks := B.notSynchronized
  have hl := lv_entry ([.long x0]) (n := 2) (Nat.le_of_ble_eq_true rfl)
  rw [lg_entry_eq]
  generalize (lg_sl ([.long x0]) ++ List.replicate (2 - (lg_sl ([.long x0])).length) Slot.unset).toArray = ls at hl ⊢
  have hl : lv_has ls 2 [(0, .long x0)] := hl
  refine lv_lload_n hx hb dX0_resultOf_0 rfl (lv_at hl 0 rfl) ?_
  refine lv_ldc2 (v := 31) hx hb hown (hts (.constantLong RX0 130 31) (by decide +kernel)) dX0_resultOf_1 ?_
  refine lv_land hx hb dX0_resultOf_4 ?_
  refine lv_l2i hx hb dX0_resultOf_5 rfl ?_
  exact W.iret hx hb hr (fun t ht hW => ⟨by rw [fX_resultOf] <;> rfl, ht⟩) (fun _ h => by cases h) dX0_resultOf_6
def fX_placesOf  (x0 : Int64) : Int32 := (((x0.toUInt64 >>> ((5 : Int32).toInt64.toUInt64 &&& Int64.toUInt64 63)).toInt64) &&& (15 : Int64)).toInt32
set_option maxHeartbeats 4000000 in
set_option maxRecDepth 100000 in
theorem cX_placesOf (l : Launch) (x0 : Int64) : Met l yX0_placesOf wsX0_placesOf ({ frames := 0, cells := 0, slots := 0, locals := 0 }) (kPs [.long x0]) (k2_QcV (.int (fX_placesOf x0))) 0 0 kNo := by
  refine Met.ofW (cc := cX0_placesOf) (maxL := 2) (ret := (some .int)) (by decide) rfl ?_
  intro p e s m args below meth c s₁ B hml hv
  obtain rfl : args = ([.long x0] : List Value).toArray := hv
  have hx := B.exec
  have hb := B.bytes
  have hr := B.returns
  have hts := atoms_spec (ws := wsX0_placesOf) B.pre
  have hown : s.vm.findClass RX0 = some m.cls := findClass_of_methodNamed B.named
  have hlocks := B.notSynchronized
  have hl := lv_entry ([.long x0]) (n := 2) (Nat.le_of_ble_eq_true rfl)
  rw [lg_entry_eq]
  generalize (lg_sl ([.long x0]) ++ List.replicate (2 - (lg_sl ([.long x0])).length) Slot.unset).toArray = ls at hl ⊢
  have hl : lv_has ls 2 [(0, .long x0)] := hl
  refine lv_lload_n hx hb dX0_placesOf_0 rfl (lv_at hl 0 rfl) ?_
  refine lv_iconst (v := 5) hx hb dX0_placesOf_1 (by decide) ?_
  refine lv_lushr hx hb dX0_placesOf_2 rfl ?_
  refine lv_ldc2 (v := 15) hx hb hown (hts (.constantLong RX0 132 15) (by decide +kernel)) dX0_placesOf_3 ?_
  refine lv_land hx hb dX0_placesOf_6 ?_
  refine lv_l2i hx hb dX0_placesOf_7 rfl ?_
  exact W.iret hx hb hr (fun t ht hW => ⟨by rw [fX_placesOf] <;> rfl, ht⟩) (fun _ h => by cases h) dX0_placesOf_8
def fX_placeBit  (x0 : Int32) : Int32 := (9 : Int32) + (x0 * (5 : Int32))
set_option maxHeartbeats 4000000 in
set_option maxRecDepth 100000 in
theorem cX_placeBit (l : Launch) (x0 : Int32) : Met l yX0_placeBit wsX0_placeBit ({ frames := 0, cells := 0, slots := 0, locals := 0 }) (kPs [.int x0]) (k2_QcV (.int (fX_placeBit x0))) 0 0 kNo := by
  refine Met.ofW (cc := cX0_placeBit) (maxL := 1) (ret := (some .int)) (by decide) rfl ?_
  intro p e s m args below meth c s₁ B hml hv
  obtain rfl : args = ([.int x0] : List Value).toArray := hv
  have hx := B.exec
  have hb := B.bytes
  have hr := B.returns
  have hts := atoms_spec (ws := wsX0_placeBit) B.pre
  have hown : s.vm.findClass RX0 = some m.cls := findClass_of_methodNamed B.named
  have hlocks := B.notSynchronized
  have hl := lv_entry ([.int x0]) (n := 1) (Nat.le_of_ble_eq_true rfl)
  rw [lg_entry_eq]
  generalize (lg_sl ([.int x0]) ++ List.replicate (1 - (lg_sl ([.int x0])).length) Slot.unset).toArray = ls at hl ⊢
  have hl : lv_has ls 1 [(0, .int x0)] := hl
  refine lv_bipush (v := 9) hx hb dX0_placeBit_0 (by decide) ?_
  refine lv_iload_n hx hb dX0_placeBit_2 rfl (lv_at hl 0 rfl) ?_
  refine lv_iconst (v := 5) hx hb dX0_placeBit_3 (by decide) ?_
  refine lv_imul hx hb dX0_placeBit_4 ?_
  refine lv_iadd hx hb dX0_placeBit_5 ?_
  exact W.iret hx hb hr (fun t ht hW => ⟨by rw [fX_placeBit] <;> rfl, ht⟩) (fun _ h => by cases h) dX0_placeBit_6
def fX_placeOf  (x0 : Int64) (x2 : Int32) : Int32 := (((x0.toUInt64 >>> ((fX_placeBit x2).toInt64.toUInt64 &&& Int64.toUInt64 63)).toInt64) &&& (31 : Int64)).toInt32
set_option maxHeartbeats 4000000 in
set_option maxRecDepth 100000 in
theorem cX_placeOf (l : Launch) (x0 : Int64) (x2 : Int32) : Met l yX0_placeOf wsX0_placeOf ({ frames := 1, cells := 0, slots := 0, locals := 20 }) (kPs [.long x0, .int x2]) (k2_QcV (.int (fX_placeOf x0 x2))) 0 0 kNo := by
  refine Met.ofW (cc := cX0_placeOf) (maxL := 3) (ret := (some .int)) (by decide) rfl ?_
  intro p e s m args below meth c s₁ B hml hv
  obtain rfl : args = ([.long x0, .int x2] : List Value).toArray := hv
  have hx := B.exec
  have hb := B.bytes
  have hr := B.returns
  have hts := atoms_spec (ws := wsX0_placeOf) B.pre
  have hown : s.vm.findClass RX0 = some m.cls := findClass_of_methodNamed B.named
  have hlocks := B.notSynchronized
  have hl := lv_entry ([.long x0, .int x2]) (n := 3) (Nat.le_of_ble_eq_true rfl)
  rw [lg_entry_eq]
  generalize (lg_sl ([.long x0, .int x2]) ++ List.replicate (3 - (lg_sl ([.long x0, .int x2])).length) Slot.unset).toArray = ls at hl ⊢
  have hl : lv_has ls 3 [(0, .long x0), (2, .int x2)] := hl
  refine lv_lload_n hx hb dX0_placeOf_0 rfl (lv_at hl 0 rfl) ?_
  refine lv_iload_n hx hb dX0_placeOf_1 rfl (lv_at hl 1 rfl) ?_
  refine kc_S [.int x2] [.long x0] ⟨hx, hb, hml, hown, hts⟩ (cX_placeBit l x2) (cwS 1 hts gX0_placeOf_X0_placeBit rfl rfl rfl (by decide +kernel) ⟨(Nat.le_of_ble_eq_true rfl), (Nat.le_of_ble_eq_true rfl)⟩) rfl hl.1 rfl (Nat.le_of_ble_eq_true rfl) dX0_placeOf_2 ⟨Nat.zero_le _, Nat.zero_le _⟩ ?_
  refine lv_lushr hx hb dX0_placeOf_5 rfl ?_
  refine lv_ldc2 (v := 31) hx hb hown (hts (.constantLong RX0 130 31) (by decide +kernel)) dX0_placeOf_6 ?_
  refine lv_land hx hb dX0_placeOf_9 ?_
  refine lv_l2i hx hb dX0_placeOf_10 rfl ?_
  exact W.iret hx hb hr (fun t ht hW => ⟨by rw [fX_placeOf] <;> rfl, ht⟩) (fun _ h => by cases h) dX0_placeOf_11
def fX_withPlace  (x0 : Int64) (x2 : Int32) : Int64 := (x0 + (32 : Int64)) ||| (x2.toInt64 <<< ((fX_placeBit (fX_placesOf x0)).toInt64 &&& 63))
set_option maxHeartbeats 4000000 in
set_option maxRecDepth 100000 in
theorem cX_withPlace (l : Launch) (x0 : Int64) (x2 : Int32) : Met l yX0_withPlace wsX0_withPlace ({ frames := 1, cells := 0, slots := 0, locals := 21 }) (kPs [.long x0, .int x2]) (k2_QcV (.long (fX_withPlace x0 x2))) 0 0 kNo := by
  refine Met.ofW (cc := cX0_withPlace) (maxL := 3) (ret := (some .long)) (by decide) rfl ?_
  intro p e s m args below meth c s₁ B hml hv
  obtain rfl : args = ([.long x0, .int x2] : List Value).toArray := hv
  have hx := B.exec
  have hb := B.bytes
  have hr := B.returns
  have hts := atoms_spec (ws := wsX0_withPlace) B.pre
  have hown : s.vm.findClass RX0 = some m.cls := findClass_of_methodNamed B.named
  have hlocks := B.notSynchronized
  have hl := lv_entry ([.long x0, .int x2]) (n := 3) (Nat.le_of_ble_eq_true rfl)
  rw [lg_entry_eq]
  generalize (lg_sl ([.long x0, .int x2]) ++ List.replicate (3 - (lg_sl ([.long x0, .int x2])).length) Slot.unset).toArray = ls at hl ⊢
  have hl : lv_has ls 3 [(0, .long x0), (2, .int x2)] := hl
  refine lv_lload_n hx hb dX0_withPlace_0 rfl (lv_at hl 0 rfl) ?_
  refine lv_ldc2 (v := 32) hx hb hown (hts (.constantLong RX0 137 32) (by decide +kernel)) dX0_withPlace_1 ?_
  refine lv_ladd hx hb dX0_withPlace_4 ?_
  refine lv_iload_n hx hb dX0_withPlace_5 rfl (lv_at hl 1 rfl) ?_
  refine lv_i2l hx hb dX0_withPlace_6 rfl ?_
  refine lv_lload_n hx hb dX0_withPlace_7 rfl (lv_at hl 0 rfl) ?_
  refine kc_S [.long x0] [.long x2.toInt64, .long (x0 + (32 : Int64))] ⟨hx, hb, hml, hown, hts⟩ (cX_placesOf l x0) (cwS 1 hts gX0_withPlace_X0_placesOf rfl rfl rfl (by decide +kernel) ⟨(Nat.le_of_ble_eq_true rfl), (Nat.le_of_ble_eq_true rfl)⟩) rfl hl.1 rfl (Nat.le_of_ble_eq_true rfl) dX0_withPlace_8 ⟨Nat.zero_le _, Nat.zero_le _⟩ ?_
  refine kc_S [.int (fX_placesOf x0)] [.long x2.toInt64, .long (x0 + (32 : Int64))] ⟨hx, hb, hml, hown, hts⟩ (cX_placeBit l (fX_placesOf x0)) (cwS 1 hts gX0_withPlace_X0_placeBit rfl rfl rfl (by decide +kernel) ⟨(Nat.le_of_ble_eq_true rfl), (Nat.le_of_ble_eq_true rfl)⟩) rfl hl.1 rfl (Nat.le_of_ble_eq_true rfl) dX0_withPlace_11 ⟨Nat.zero_le _, Nat.zero_le _⟩ ?_
  refine lv_lshl hx hb dX0_withPlace_14 rfl ?_
  refine lv_lor hx hb dX0_withPlace_15 ?_
  exact W.lret hx hb hr (fun t ht hW => ⟨by rw [fX_withPlace] <;> rfl, ht⟩) (fun _ h => by cases h) dX0_withPlace_16
def fX_isKind (nk : Nat) (x1 : Int32) : Bool := if x1 < 0 then false else if (nI nk) ≤ x1 then false else true
set_option maxHeartbeats 4000000 in
set_option maxRecDepth 100000 in
theorem cX_isKind (l : Launch) (dC : Nat → ClassId) (dI : Nat → Nat → Nat) (h0 qa qr qt : Nat) (cI cJ : ClassId) (av : Nat → Int32) (nk : Nat) (rv : Nat → Int32) (nr : Nat) (tv : Nat → Int64) (nt : Nat) (pk : Int32) (pn : Int64) (x1 : Int32) : Met l yX0_isKind wsX0_isKind ({ frames := 0, cells := 0, slots := 0, locals := 0 }) (kPr (dC, dI) vwCl [(cI, .int), (cJ, .long)] (xW h0 qa qr qt cI cJ av nk rv nr tv nt pk pn) [.ref h0, .int x1]) (k2_QcV (.int (bI (fX_isKind nk x1)))) 0 0 kNo := by
  refine Met.ofW (cc := cX0_isKind) (maxL := 2) (ret := (some .boolean)) (by decide) rfl ?_
  intro p e s m args below meth c s₁ B hml hv
  obtain ⟨rfl, hP, hK⟩ := hv
  have hx := B.exec
  have hb := B.bytes
  have hr := B.returns
  have hts := atoms_spec (ws := wsX0_isKind) B.pre
  have hown : s.vm.findClass RX0 = some m.cls := findClass_of_methodNamed B.named
  have hlocks := B.notSynchronized
  have hin : ∀ w ∈ u_ws RX0 TX0 8, w ∈ wsX0_isKind := by decide +kernel
  have hl := lv_entry ([.ref h0, .int x1]) (n := 2) (Nat.le_of_ble_eq_true rfl)
  rw [lg_entry_eq]
  generalize (lg_sl ([.ref h0, .int x1]) ++ List.replicate (2 - (lg_sl ([.ref h0, .int x1])).length) Slot.unset).toArray = ls at hl ⊢
  have hl : lv_has ls 2 [(0, .ref h0), (1, .int x1)] := hl
  refine lv_iload_n hx hb dX0_isKind_0 rfl (lv_at hl 1 rfl) ?_
  refine lv_if_lt (tgt := 16) hx hb dX0_isKind_1 (by decide) (fun c1 => ?_) (fun c1 => ?_)
  · refine lv_iconst (v := 0) hx hb dX0_isKind_16 (by decide) ?_
    exact W.zret hx hb hr rfl (fun t ht hW => ⟨by rw [fX_isKind, if_pos c1] <;> rfl, ht⟩) (fun _ h => by cases h) dX0_isKind_17
  · refine lv_iload_n hx hb dX0_isKind_4 rfl (lv_at hl 1 rfl) ?_
    refine lv_aload_n hx hb dX0_isKind_5 rfl (lv_at hl 0 rfl) ?_
    refine va_get (D := (dC, dI)) (ci := 0) (v := .int (nI nk)) (C := RX0) (T := TX0) (N := 8) hx hb hts hin hown hK hP 0 rfl rfl 1 (by decide) (hts (.fieldLink RX0 17 "KindTable" "kindCount" "I") (by decide +kernel)) (fun _ h9 => h9) rfl dX0_isKind_6 ?_
    refine lv_icmp_ge (tgt := 16) hx hb dX0_isKind_9 (by decide) (fun c9 => ?_) (fun c9 => ?_)
    · refine lv_iconst (v := 0) hx hb dX0_isKind_16 (by decide) ?_
      exact W.zret hx hb hr rfl (fun t ht hW => ⟨by rw [fX_isKind, if_neg c1, if_pos c9] <;> rfl, ht⟩) (fun _ h => by cases h) dX0_isKind_17
    · refine lv_iconst (v := 1) hx hb dX0_isKind_12 (by decide) ?_
      refine lv_goto (tgt := 17) hx hb dX0_isKind_13 (by decide) ?_
      exact W.zret hx hb hr rfl (fun t ht hW => ⟨by rw [fX_isKind, if_neg c1, if_neg c9] <;> rfl, ht⟩) (fun _ h => by cases h) dX0_isKind_17
def fX_isType (nt : Nat) (x1 : Int32) : Bool := if x1 < 0 then false else if (nI nt) ≤ x1 then false else true
set_option maxHeartbeats 4000000 in
set_option maxRecDepth 100000 in
theorem cX_isType (l : Launch) (dC : Nat → ClassId) (dI : Nat → Nat → Nat) (h0 qa qr qt : Nat) (cI cJ : ClassId) (av : Nat → Int32) (nk : Nat) (rv : Nat → Int32) (nr : Nat) (tv : Nat → Int64) (nt : Nat) (pk : Int32) (pn : Int64) (x1 : Int32) : Met l yX0_isType wsX0_isType ({ frames := 0, cells := 0, slots := 0, locals := 0 }) (kPr (dC, dI) vwCl [(cI, .int), (cJ, .long)] (xW h0 qa qr qt cI cJ av nk rv nr tv nt pk pn) [.ref h0, .int x1]) (k2_QcV (.int (bI (fX_isType nt x1)))) 0 0 kNo := by
  refine Met.ofW (cc := cX0_isType) (maxL := 2) (ret := (some .boolean)) (by decide) rfl ?_
  intro p e s m args below meth c s₁ B hml hv
  obtain ⟨rfl, hP, hK⟩ := hv
  have hx := B.exec
  have hb := B.bytes
  have hr := B.returns
  have hts := atoms_spec (ws := wsX0_isType) B.pre
  have hown : s.vm.findClass RX0 = some m.cls := findClass_of_methodNamed B.named
  have hlocks := B.notSynchronized
  have hin : ∀ w ∈ u_ws RX0 TX0 8, w ∈ wsX0_isType := by decide +kernel
  have hl := lv_entry ([.ref h0, .int x1]) (n := 2) (Nat.le_of_ble_eq_true rfl)
  rw [lg_entry_eq]
  generalize (lg_sl ([.ref h0, .int x1]) ++ List.replicate (2 - (lg_sl ([.ref h0, .int x1])).length) Slot.unset).toArray = ls at hl ⊢
  have hl : lv_has ls 2 [(0, .ref h0), (1, .int x1)] := hl
  refine lv_iload_n hx hb dX0_isType_0 rfl (lv_at hl 1 rfl) ?_
  refine lv_if_lt (tgt := 16) hx hb dX0_isType_1 (by decide) (fun c1 => ?_) (fun c1 => ?_)
  · refine lv_iconst (v := 0) hx hb dX0_isType_16 (by decide) ?_
    exact W.zret hx hb hr rfl (fun t ht hW => ⟨by rw [fX_isType, if_pos c1] <;> rfl, ht⟩) (fun _ h => by cases h) dX0_isType_17
  · refine lv_iload_n hx hb dX0_isType_4 rfl (lv_at hl 1 rfl) ?_
    refine lv_aload_n hx hb dX0_isType_5 rfl (lv_at hl 0 rfl) ?_
    refine va_get (D := (dC, dI)) (ci := 0) (v := .int (nI nt)) (C := RX0) (T := TX0) (N := 8) hx hb hts hin hown hK hP 0 rfl rfl 5 (by decide) (hts (.fieldLink RX0 31 "KindTable" "typeCount" "I") (by decide +kernel)) (fun _ h9 => h9) rfl dX0_isType_6 ?_
    refine lv_icmp_ge (tgt := 16) hx hb dX0_isType_9 (by decide) (fun c9 => ?_) (fun c9 => ?_)
    · refine lv_iconst (v := 0) hx hb dX0_isType_16 (by decide) ?_
      exact W.zret hx hb hr rfl (fun t ht hW => ⟨by rw [fX_isType, if_neg c1, if_pos c9] <;> rfl, ht⟩) (fun _ h => by cases h) dX0_isType_17
    · refine lv_iconst (v := 1) hx hb dX0_isType_12 (by decide) ?_
      refine lv_goto (tgt := 17) hx hb dX0_isType_13 (by decide) ?_
      exact W.zret hx hb hr rfl (fun t ht hW => ⟨by rw [fX_isType, if_neg c1, if_neg c9] <;> rfl, ht⟩) (fun _ h => by cases h) dX0_isType_17
def fX_mayBeParent (nk : Nat) (x1 : Int32) : Bool := if (bI (fX_isKind nk x1)) = 0 then false else if x1 = (7 : Int32) then true else if x1 = (19 : Int32) then true else if x1 < (20 : Int32) then false else true
set_option maxHeartbeats 4000000 in
set_option maxRecDepth 100000 in
theorem cX_mayBeParent (l : Launch) (dC : Nat → ClassId) (dI : Nat → Nat → Nat) (h0 qa qr qt : Nat) (cI cJ : ClassId) (av : Nat → Int32) (nk : Nat) (rv : Nat → Int32) (nr : Nat) (tv : Nat → Int64) (nt : Nat) (pk : Int32) (pn : Int64) (x1 : Int32) : Met l yX0_mayBeParent wsX0_mayBeParent ({ frames := 1, cells := 0, slots := 0, locals := 21 }) (kPr (dC, dI) vwCl [(cI, .int), (cJ, .long)] (xW h0 qa qr qt cI cJ av nk rv nr tv nt pk pn) [.ref h0, .int x1]) (k2_QcV (.int (bI (fX_mayBeParent nk x1)))) 0 0 kNo := by
  refine Met.ofW (cc := cX0_mayBeParent) (maxL := 2) (ret := (some .boolean)) (by decide) rfl ?_
  intro p e s m args below meth c s₁ B hml hv
  obtain ⟨rfl, hP, hK⟩ := hv
  have hx := B.exec
  have hb := B.bytes
  have hr := B.returns
  have hts := atoms_spec (ws := wsX0_mayBeParent) B.pre
  have hown : s.vm.findClass RX0 = some m.cls := findClass_of_methodNamed B.named
  have hlocks := B.notSynchronized
  have hl := lv_entry ([.ref h0, .int x1]) (n := 2) (Nat.le_of_ble_eq_true rfl)
  rw [lg_entry_eq]
  generalize (lg_sl ([.ref h0, .int x1]) ++ List.replicate (2 - (lg_sl ([.ref h0, .int x1])).length) Slot.unset).toArray = ls at hl ⊢
  have hl : lv_has ls 2 [(0, .ref h0), (1, .int x1)] := hl
  refine lv_aload_n hx hb dX0_mayBeParent_0 rfl (lv_at hl 0 rfl) ?_
  refine lv_iload_n hx hb dX0_mayBeParent_1 rfl (lv_at hl 1 rfl) ?_
  refine kc_R [.int x1] [] ⟨hx, hb, hml, hown, hts⟩ (cX_isKind l dC dI h0 qa qr qt cI cJ av nk rv nr tv nt pk pn x1) (cwV 1 hts gX0_mayBeParent_X0_isKind rfl rfl rfl (by decide +kernel) ⟨(Nat.le_of_ble_eq_true rfl), (Nat.le_of_ble_eq_true rfl)⟩) hP hK (ci := 0) (q0 := 0) rfl rfl rfl rfl hl.1 rfl (Nat.le_of_ble_eq_true rfl) dX0_mayBeParent_2 ⟨Nat.zero_le _, Nat.zero_le _⟩ ?_
  refine lv_if_eq (tgt := 30) hx hb dX0_mayBeParent_5 (by decide) (fun c5 => ?_) (fun c5 => ?_)
  · refine lv_iconst (v := 0) hx hb dX0_mayBeParent_30 (by decide) ?_
    exact W.zret hx hb hr rfl (fun t ht hW => ⟨by rw [fX_mayBeParent, if_pos c5] <;> rfl, ht⟩) (fun _ h => by cases h) dX0_mayBeParent_31
  · refine lv_iload_n hx hb dX0_mayBeParent_8 rfl (lv_at hl 1 rfl) ?_
    refine lv_bipush (v := 7) hx hb dX0_mayBeParent_9 (by decide) ?_
    refine lv_icmp_eq (tgt := 26) hx hb dX0_mayBeParent_11 (by decide) (fun c11 => ?_) (fun c11 => ?_)
    · refine lv_iconst (v := 1) hx hb dX0_mayBeParent_26 (by decide) ?_
      refine lv_goto (tgt := 31) hx hb dX0_mayBeParent_27 (by decide) ?_
      exact W.zret hx hb hr rfl (fun t ht hW => ⟨by rw [fX_mayBeParent, if_neg c5, if_pos c11] <;> rfl, ht⟩) (fun _ h => by cases h) dX0_mayBeParent_31
    · refine lv_iload_n hx hb dX0_mayBeParent_14 rfl (lv_at hl 1 rfl) ?_
      refine lv_bipush (v := 19) hx hb dX0_mayBeParent_15 (by decide) ?_
      refine lv_icmp_eq (tgt := 26) hx hb dX0_mayBeParent_17 (by decide) (fun c17 => ?_) (fun c17 => ?_)
      · refine lv_iconst (v := 1) hx hb dX0_mayBeParent_26 (by decide) ?_
        refine lv_goto (tgt := 31) hx hb dX0_mayBeParent_27 (by decide) ?_
        exact W.zret hx hb hr rfl (fun t ht hW => ⟨by rw [fX_mayBeParent, if_neg c5, if_neg c11, if_pos c17] <;> rfl, ht⟩) (fun _ h => by cases h) dX0_mayBeParent_31
      · refine lv_iload_n hx hb dX0_mayBeParent_20 rfl (lv_at hl 1 rfl) ?_
        refine lv_bipush (v := 20) hx hb dX0_mayBeParent_21 (by decide) ?_
        refine lv_icmp_lt (tgt := 30) hx hb dX0_mayBeParent_23 (by decide) (fun c23 => ?_) (fun c23 => ?_)
        · refine lv_iconst (v := 0) hx hb dX0_mayBeParent_30 (by decide) ?_
          exact W.zret hx hb hr rfl (fun t ht hW => ⟨by rw [fX_mayBeParent, if_neg c5, if_neg c11, if_neg c17, if_pos c23] <;> rfl, ht⟩) (fun _ h => by cases h) dX0_mayBeParent_31
        · refine lv_iconst (v := 1) hx hb dX0_mayBeParent_26 (by decide) ?_
          refine lv_goto (tgt := 31) hx hb dX0_mayBeParent_27 (by decide) ?_
          exact W.zret hx hb hr rfl (fun t ht hW => ⟨by rw [fX_mayBeParent, if_neg c5, if_neg c11, if_neg c17, if_neg c23] <;> rfl, ht⟩) (fun _ h => by cases h) dX0_mayBeParent_31
def fX_isObject (nk : Nat) (x1 : Int32) (x2 : Int64) : Bool := if (bI (fX_isKind nk x1)) = 0 then false else if (8 : Int32) < x1 then if (bI (fX_isBox x1)) = 0 then true else if (bI (fX_fits (x1 - (8 : Int32)) x2)) = 0 then false else true else false
set_option maxHeartbeats 4000000 in
set_option maxRecDepth 100000 in
theorem cX_isObject (l : Launch) (dC : Nat → ClassId) (dI : Nat → Nat → Nat) (h0 qa qr qt : Nat) (cI cJ : ClassId) (av : Nat → Int32) (nk : Nat) (rv : Nat → Int32) (nr : Nat) (tv : Nat → Int64) (nt : Nat) (pk : Int32) (pn : Int64) (x1 : Int32) (x2 : Int64) : Met l yX0_isObject wsX0_isObject ({ frames := 2, cells := 0, slots := 0, locals := 44 }) (kPr (dC, dI) vwCl [(cI, .int), (cJ, .long)] (xW h0 qa qr qt cI cJ av nk rv nr tv nt pk pn) [.ref h0, .int x1, .long x2]) (k2_QcV (.int (bI (fX_isObject nk x1 x2)))) 0 0 kNo := by
  refine Met.ofW (cc := cX0_isObject) (maxL := 4) (ret := (some .boolean)) (by decide) rfl ?_
  intro p e s m args below meth c s₁ B hml hv
  obtain ⟨rfl, hP, hK⟩ := hv
  have hx := B.exec
  have hb := B.bytes
  have hr := B.returns
  have hts := atoms_spec (ws := wsX0_isObject) B.pre
  have hown : s.vm.findClass RX0 = some m.cls := findClass_of_methodNamed B.named
  have hlocks := B.notSynchronized
  have hl := lv_entry ([.ref h0, .int x1, .long x2]) (n := 4) (Nat.le_of_ble_eq_true rfl)
  rw [lg_entry_eq]
  generalize (lg_sl ([.ref h0, .int x1, .long x2]) ++ List.replicate (4 - (lg_sl ([.ref h0, .int x1, .long x2])).length) Slot.unset).toArray = ls at hl ⊢
  have hl : lv_has ls 4 [(0, .ref h0), (1, .int x1), (2, .long x2)] := hl
  refine lv_aload_n hx hb dX0_isObject_0 rfl (lv_at hl 0 rfl) ?_
  refine lv_iload_n hx hb dX0_isObject_1 rfl (lv_at hl 1 rfl) ?_
  refine kc_R [.int x1] [] ⟨hx, hb, hml, hown, hts⟩ (cX_isKind l dC dI h0 qa qr qt cI cJ av nk rv nr tv nt pk pn x1) (cwV 1 hts gX0_isObject_X0_isKind rfl rfl rfl (by decide +kernel) ⟨(Nat.le_of_ble_eq_true rfl), (Nat.le_of_ble_eq_true rfl)⟩) hP hK (ci := 0) (q0 := 0) rfl rfl rfl rfl hl.1 rfl (Nat.le_of_ble_eq_true rfl) dX0_isObject_2 ⟨Nat.zero_le _, Nat.zero_le _⟩ ?_
  refine lv_if_eq (tgt := 14) hx hb dX0_isObject_5 (by decide) (fun c5 => ?_) (fun c5 => ?_)
  · refine lv_iconst (v := 0) hx hb dX0_isObject_14 (by decide) ?_
    exact W.zret hx hb hr rfl (fun t ht hW => ⟨by rw [fX_isObject, if_pos c5] <;> rfl, ht⟩) (fun _ h => by cases h) dX0_isObject_15
  · refine lv_iload_n hx hb dX0_isObject_8 rfl (lv_at hl 1 rfl) ?_
    refine lv_bipush (v := 8) hx hb dX0_isObject_9 (by decide) ?_
    refine lv_icmp_gt (tgt := 16) hx hb dX0_isObject_11 (by decide) (fun c11 => ?_) (fun c11 => ?_)
    · refine lv_iload_n hx hb dX0_isObject_16 rfl (lv_at hl 1 rfl) ?_
      refine kc_S [.int x1] [] ⟨hx, hb, hml, hown, hts⟩ (cX_isBox l x1) (cwS 1 hts gX0_isObject_X0_isBox rfl rfl rfl (by decide +kernel) ⟨(Nat.le_of_ble_eq_true rfl), (Nat.le_of_ble_eq_true rfl)⟩) rfl hl.1 rfl (Nat.le_of_ble_eq_true rfl) dX0_isObject_17 ⟨Nat.zero_le _, Nat.zero_le _⟩ ?_
      refine lv_if_eq (tgt := 34) hx hb dX0_isObject_20 (by decide) (fun c20 => ?_) (fun c20 => ?_)
      · refine lv_iconst (v := 1) hx hb dX0_isObject_34 (by decide) ?_
        refine lv_goto (tgt := 39) hx hb dX0_isObject_35 (by decide) ?_
        exact W.zret hx hb hr rfl (fun t ht hW => ⟨by rw [fX_isObject, if_neg c5, if_pos c11, if_pos c20] <;> rfl, ht⟩) (fun _ h => by cases h) dX0_isObject_39
      · refine lv_iload_n hx hb dX0_isObject_23 rfl (lv_at hl 1 rfl) ?_
        refine lv_bipush (v := 8) hx hb dX0_isObject_24 (by decide) ?_
        refine lv_isub hx hb dX0_isObject_26 ?_
        refine lv_lload_n hx hb dX0_isObject_27 rfl (lv_at hl 2 rfl) ?_
        refine kc_S [.int (x1 - (8 : Int32)), .long x2] [] ⟨hx, hb, hml, hown, hts⟩ (cX_fits l (x1 - (8 : Int32)) x2) (cwS 2 hts gX0_isObject_X0_fits rfl rfl rfl (by decide +kernel) ⟨(Nat.le_of_ble_eq_true rfl), (Nat.le_of_ble_eq_true rfl)⟩) rfl hl.1 rfl (Nat.le_of_ble_eq_true rfl) dX0_isObject_28 ⟨Nat.zero_le _, Nat.zero_le _⟩ ?_
        refine lv_if_eq (tgt := 38) hx hb dX0_isObject_31 (by decide) (fun c31 => ?_) (fun c31 => ?_)
        · refine lv_iconst (v := 0) hx hb dX0_isObject_38 (by decide) ?_
          exact W.zret hx hb hr rfl (fun t ht hW => ⟨by rw [fX_isObject, if_neg c5, if_pos c11, if_neg c20, if_pos c31] <;> rfl, ht⟩) (fun _ h => by cases h) dX0_isObject_39
        · refine lv_iconst (v := 1) hx hb dX0_isObject_34 (by decide) ?_
          refine lv_goto (tgt := 39) hx hb dX0_isObject_35 (by decide) ?_
          exact W.zret hx hb hr rfl (fun t ht hW => ⟨by rw [fX_isObject, if_neg c5, if_pos c11, if_neg c20, if_neg c31] <;> rfl, ht⟩) (fun _ h => by cases h) dX0_isObject_39
    · refine lv_iconst (v := 0) hx hb dX0_isObject_14 (by decide) ?_
      exact W.zret hx hb hr rfl (fun t ht hW => ⟨by rw [fX_isObject, if_neg c5, if_neg c11] <;> rfl, ht⟩) (fun _ h => by cases h) dX0_isObject_15
def fX_kind (pk : Int32)  : Int32 := pk
set_option maxHeartbeats 4000000 in
set_option maxRecDepth 100000 in
theorem cX_kind (l : Launch) (dC : Nat → ClassId) (dI : Nat → Nat → Nat) (h0 qa qr qt : Nat) (cI cJ : ClassId) (av : Nat → Int32) (nk : Nat) (rv : Nat → Int32) (nr : Nat) (tv : Nat → Int64) (nt : Nat) (pk : Int32) (pn : Int64) : Met l yX0_kind wsX0_kind ({ frames := 0, cells := 0, slots := 0, locals := 0 }) (kPr (dC, dI) vwCl [(cI, .int), (cJ, .long)] (xW h0 qa qr qt cI cJ av nk rv nr tv nt pk pn) [.ref h0]) (k2_QcV (.int (fX_kind pk))) 0 0 kNo := by
  refine Met.ofW (cc := cX0_kind) (maxL := 1) (ret := (some .int)) (by decide) rfl ?_
  intro p e s m args below meth c s₁ B hml hv
  obtain ⟨rfl, hP, hK⟩ := hv
  have hx := B.exec
  have hb := B.bytes
  have hr := B.returns
  have hts := atoms_spec (ws := wsX0_kind) B.pre
  have hown : s.vm.findClass RX0 = some m.cls := findClass_of_methodNamed B.named
  have hlocks := B.notSynchronized
  have hin : ∀ w ∈ u_ws RX0 TX0 8, w ∈ wsX0_kind := by decide +kernel
  have hl := lv_entry ([.ref h0]) (n := 1) (Nat.le_of_ble_eq_true rfl)
  rw [lg_entry_eq]
  generalize (lg_sl ([.ref h0]) ++ List.replicate (1 - (lg_sl ([.ref h0])).length) Slot.unset).toArray = ls at hl ⊢
  have hl : lv_has ls 1 [(0, .ref h0)] := hl
  refine lv_aload_n hx hb dX0_kind_0 rfl (lv_at hl 0 rfl) ?_
  refine va_get (D := (dC, dI)) (ci := 0) (v := .int pk) (C := RX0) (T := TX0) (N := 8) hx hb hts hin hown hK hP 0 rfl rfl 6 (by decide) (hts (.fieldLink RX0 34 "KindTable" "passedKind" "I") (by decide +kernel)) (fun _ h9 => h9) rfl dX0_kind_1 ?_
  exact W.iret hx hb hr (fun t ht hW => ⟨by rw [fX_kind] <;> rfl, ht⟩) (fun _ h => by cases h) dX0_kind_4
def fX_number (pn : Int64)  : Int64 := pn
set_option maxHeartbeats 4000000 in
set_option maxRecDepth 100000 in
theorem cX_number (l : Launch) (dC : Nat → ClassId) (dI : Nat → Nat → Nat) (h0 qa qr qt : Nat) (cI cJ : ClassId) (av : Nat → Int32) (nk : Nat) (rv : Nat → Int32) (nr : Nat) (tv : Nat → Int64) (nt : Nat) (pk : Int32) (pn : Int64) : Met l yX0_number wsX0_number ({ frames := 0, cells := 0, slots := 0, locals := 0 }) (kPr (dC, dI) vwCl [(cI, .int), (cJ, .long)] (xW h0 qa qr qt cI cJ av nk rv nr tv nt pk pn) [.ref h0]) (k2_QcV (.long (fX_number pn))) 0 0 kNo := by
  refine Met.ofW (cc := cX0_number) (maxL := 1) (ret := (some .long)) (by decide) rfl ?_
  intro p e s m args below meth c s₁ B hml hv
  obtain ⟨rfl, hP, hK⟩ := hv
  have hx := B.exec
  have hb := B.bytes
  have hr := B.returns
  have hts := atoms_spec (ws := wsX0_number) B.pre
  have hown : s.vm.findClass RX0 = some m.cls := findClass_of_methodNamed B.named
  have hlocks := B.notSynchronized
  have hin : ∀ w ∈ u_ws RX0 TX0 8, w ∈ wsX0_number := by decide +kernel
  have hl := lv_entry ([.ref h0]) (n := 1) (Nat.le_of_ble_eq_true rfl)
  rw [lg_entry_eq]
  generalize (lg_sl ([.ref h0]) ++ List.replicate (1 - (lg_sl ([.ref h0])).length) Slot.unset).toArray = ls at hl ⊢
  have hl : lv_has ls 1 [(0, .ref h0)] := hl
  refine lv_aload_n hx hb dX0_number_0 rfl (lv_at hl 0 rfl) ?_
  refine va_get (D := (dC, dI)) (ci := 0) (v := .long pn) (C := RX0) (T := TX0) (N := 8) hx hb hts hin hown hK hP 0 rfl rfl 7 (by decide) (hts (.fieldLink RX0 37 "KindTable" "passedNumber" "J") (by decide +kernel)) (fun _ h9 => h9) rfl dX0_number_1 ?_
  exact W.lret hx hb hr (fun t ht hW => ⟨by rw [fX_number] <;> rfl, ht⟩) (fun _ h => by cases h) dX0_number_4
theorem kAV_bit0 {bl : Nat → Nat → Bool} {av : Nat → Int32} {nk : Nat} (h : kAV bl av nk) (hn : nk ≤ 32) {x y : Int32} (hx : vp_in x nk) (hy : vp_in y 32) (c : ((av x.toNatClampNeg).toUInt32 >>> (y.toUInt32 &&& Int32.toUInt32 31)).toInt32 &&& 1 = 0) : blI bl x y = false := (kAV_bit h hn hx hy).mp c
theorem kAV_bit1 {bl : Nat → Nat → Bool} {av : Nat → Int32} {nk : Nat} (h : kAV bl av nk) (hn : nk ≤ 32) {x y : Int32} (hx : vp_in x nk) (hy : vp_in y 32) (c : ¬ ((av x.toNatClampNeg).toUInt32 >>> (y.toUInt32 &&& Int32.toUInt32 31)).toInt32 &&& 1 = 0) : blI bl x y = true := by
  cases hb : blI bl x y
  · exact absurd ((kAV_bit h hn hx hy).mpr hb) c
  · rfl
theorem rng_iff {n : Nat} (hn : n < 2 ^ 31) (x : Int32) : (if x < 0 then false else if (nI n) ≤ x then false else true) = true ↔ vp_in x n := by
  by_cases c1 : x < 0
  · rw [if_pos c1]; exact ⟨fun h => (by cases h), fun h => absurd (Or.inl c1) h⟩
  · rw [if_neg c1]
    obtain ⟨j, hj, rfl⟩ := nI_of c1
    by_cases c2 : nI n ≤ nI j
    · rw [if_pos c2]
      exact ⟨fun h => (by cases h), fun h => absurd (Or.inr (by rw [nI_clamp hj]; exact (nI_leI hn hj).mp c2)) h⟩
    · rw [if_neg c2]
      exact ⟨fun _ => vp_in_nI (Nat.not_le.mp (fun q => c2 (nI_le q hj))) hn, fun _ => rfl⟩
theorem bI_n0 {b : Bool} (h : ¬ bI b = 0) : b = true := by
  cases b
  · exact absurd rfl h
  · rfl
theorem bI_e0 {b : Bool} (h : bI b = 0) : b = false := by
  cases b
  · rfl
  · cases h
theorem kK_in {nk : Nat} {x : Int32} (hn : nk ≤ 32) (h : ¬ bI (fX_isKind nk x) = 0) : vp_in x nk := (rng_iff (by omega) x).mp (bI_n0 h)
theorem kT_in {nt : Nat} {x : Int32} (hn : nt ≤ 300) (h : ¬ bI (fX_isType nt x) = 0) : vp_in x nt := (rng_iff (by omega) x).mp (bI_n0 h)
theorem kO_in {nk : Nat} {x : Int32} {y : Int64} (hn : nk ≤ 32) (h : ¬ bI (fX_isObject nk x y) = 0) : vp_in x nk := by
  by_cases c : bI (fX_isKind nk x) = 0
  · exact absurd (by rw [fX_isObject, if_pos c]; rfl) h
  · exact kK_in hn c
theorem kPar_in {nk : Nat} {x : Int32} (hn : nk ≤ 32) (h : ¬ bI (fX_mayBeParent nk x) = 0) : vp_in x nk := by
  by_cases c : bI (fX_isKind nk x) = 0
  · exact absurd (by rw [fX_mayBeParent, if_pos c]; rfl) h
  · exact kK_in hn c
theorem plain_of {x : Int32} (h : fX_isPlain x = true) : ∃ j, 1 ≤ j ∧ j ≤ 6 ∧ x = nI j := by
  unfold fX_isPlain at h
  by_cases c1 : x < 1
  · rw [if_pos c1] at h; cases h
  · rw [if_neg c1] at h
    by_cases c2 : 6 < x
    · rw [if_pos c2] at h; cases h
    · rw [Int32.lt_iff_toInt_lt] at c1 c2
      have e1 : (1 : Int32).toInt = 1 := by decide
      have e6 : (6 : Int32).toInt = 6 := by decide
      obtain ⟨j, hj, rfl⟩ := vp_in_of (x := x) (n := 7) (vp_in_iff.mpr ⟨by omega, by omega⟩) (by decide)
      rw [nI_toInt (by omega)] at c1 c2
      exact ⟨j, by omega, by omega, rfl⟩
theorem kpl_in {nk : Nat} {x : Int32} (hn : 20 ≤ nk) (h : ¬ bI (fX_isPlain x) = 0) : vp_in (x + 8) nk := by
  obtain ⟨j, h1, h2, rfl⟩ := plain_of (bI_n0 h)
  refine vp_in_mono (a := 20) ?_ hn
  rw [show nI j + 8 = nI (j + 8) from nI_add j 8]
  exact vp_in_nI (by omega) (by decide)
theorem kput_in {nr : Nat} (hn : nr ≤ 20) (h : nI nr < 20) : vp_in (nI nr) 20 := vp_in_nI ((nI_ltI (by omega) (by decide)).mp h) (by decide)
theorem kNk_in {nk : Nat} (hn : nk ≤ 32) (h : ¬ (32 : Int32) ≤ nI nk) : vp_in (nI nk) 32 := vp_in_nI (Nat.not_le.mp (fun q => h (nI_le (a := 32) q (by omega)))) (by decide)
end
section
set_option maxHeartbeats 4000000 in
set_option maxRecDepth 100000 in
theorem cX_isBelow (l : Launch) (dC : Nat → ClassId) (dI : Nat → Nat → Nat) (h0 qa qr qt : Nat) (cI cJ : ClassId) (av : Nat → Int32) (nk : Nat) (rv : Nat → Int32) (nr : Nat) (tv : Nat → Int64) (nt : Nat) (pk : Int32) (pn : Int64) (bl : Nat → Nat → Bool) (x1 : Int32) (x2 : Int32) (hAV : kAV bl av nk) (hnk : 20 ≤ nk ∧ nk ≤ 32) (hx1 : vp_in x1 nk) (hx2 : vp_in x2 32) : Met l yX0_isBelow wsX0_isBelow ({ frames := 0, cells := 0, slots := 0, locals := 0 }) (kPr (dC, dI) vwCl [(cI, .int), (cJ, .long)] (xW h0 qa qr qt cI cJ av nk rv nr tv nt pk pn) [.ref h0, .int x1, .int x2]) (k2_QcV (.int (bI (blI bl x1 x2)))) 0 0 kNo := by
  refine Met.ofW (cc := cX0_isBelow) (maxL := 3) (ret := (some .boolean)) (by decide) rfl ?_
  intro p e s m args below meth c s₁ B hml hv
  obtain ⟨rfl, hP, hK⟩ := hv
  have hx := B.exec
  have hb := B.bytes
  have hr := B.returns
  have hts := atoms_spec (ws := wsX0_isBelow) B.pre
  have hown : s.vm.findClass RX0 = some m.cls := findClass_of_methodNamed B.named
  have hlocks := B.notSynchronized
  have hin : ∀ w ∈ u_ws RX0 TX0 8, w ∈ wsX0_isBelow := by decide +kernel
  have hl := lv_entry ([.ref h0, .int x1, .int x2]) (n := 3) (Nat.le_of_ble_eq_true rfl)
  rw [lg_entry_eq]
  generalize (lg_sl ([.ref h0, .int x1, .int x2]) ++ List.replicate (3 - (lg_sl ([.ref h0, .int x1, .int x2])).length) Slot.unset).toArray = ls at hl ⊢
  have hl : lv_has ls 3 [(0, .ref h0), (1, .int x1), (2, .int x2)] := hl
  refine lv_aload_n hx hb dX0_isBelow_0 rfl (lv_at hl 0 rfl) ?_
  refine va_get (D := (dC, dI)) (ci := 0) (v := .ref qa) (C := RX0) (T := TX0) (N := 8) hx hb hts hin hown hK hP 0 rfl rfl 0 (by decide) (hts (.fieldLink RX0 9 "KindTable" "above" "[I") (by decide +kernel)) (fun _ h9 => h9) rfl dX0_isBelow_1 ?_
  refine lv_iload_n hx hb dX0_isBelow_4 rfl (lv_at hl 1 rfl) ?_
  refine va_iald hx hb hK hP 1 0 rfl rfl (vp_in_mono hx1 hnk.2) dX0_isBelow_5 ?_
  refine lv_iload_n hx hb dX0_isBelow_6 rfl (lv_at hl 2 rfl) ?_
  refine lv_iushr hx hb dX0_isBelow_7 rfl ?_
  refine lv_iconst (v := 1) hx hb dX0_isBelow_8 (by decide) ?_
  refine lv_iand hx hb dX0_isBelow_9 ?_
  refine lv_if_eq (tgt := 17) hx hb dX0_isBelow_10 (by decide) (fun c10 => ?_) (fun c10 => ?_)
  · refine lv_iconst (v := 0) hx hb dX0_isBelow_17 (by decide) ?_
    exact W.zret hx hb hr rfl (fun t ht hW => ⟨by rw [kAV_bit0 hAV hnk.2 hx1 hx2 c10] <;> rfl, ht⟩) (fun _ h => by cases h) dX0_isBelow_18
  · refine lv_iconst (v := 1) hx hb dX0_isBelow_13 (by decide) ?_
    refine lv_goto (tgt := 18) hx hb dX0_isBelow_14 (by decide) ?_
    exact W.zret hx hb hr rfl (fun t ht hW => ⟨by rw [kAV_bit1 hAV hnk.2 hx1 hx2 c10] <;> rfl, ht⟩) (fun _ h => by cases h) dX0_isBelow_18
def fX_mayPass (bl : Nat → Nat → Bool) (x1 : Int32) (x2 : Int32) (x3 : Bool) : Bool := if (bI (fX_isPlain x1)) = 0 then if (bI (fX_isPlain x2)) = 0 then true else if (bI x3) = 0 then (fX_mayUnbox x1 x2) else if x1 = (7 : Int32) then true else if x1 = (8 : Int32) then true else if (bI (fX_isBox x1)) = 0 then false else true else if (bI (fX_isPlain x2)) = 0 then (blI bl (x1 + (8 : Int32)) x2) else if (bI x3) = 0 then if (bI (fX_mayWiden x1 x2)) = 0 then false else true else true
set_option maxHeartbeats 4000000 in
set_option maxRecDepth 100000 in
theorem cX_mayPass (l : Launch) (dC : Nat → ClassId) (dI : Nat → Nat → Nat) (h0 qa qr qt : Nat) (cI cJ : ClassId) (av : Nat → Int32) (nk : Nat) (rv : Nat → Int32) (nr : Nat) (tv : Nat → Int64) (nt : Nat) (pk : Int32) (pn : Int64) (bl : Nat → Nat → Bool) (x1 : Int32) (x2 : Int32) (x3 : Bool) (hAV : kAV bl av nk) (hnk : 20 ≤ nk ∧ nk ≤ 32) (hx2 : vp_in x2 32) : Met l yX0_mayPass wsX0_mayPass ({ frames := 2, cells := 0, slots := 0, locals := 42 }) (kPr (dC, dI) vwCl [(cI, .int), (cJ, .long)] (xW h0 qa qr qt cI cJ av nk rv nr tv nt pk pn) [.ref h0, .int x1, .int x2, .int (bI x3)]) (k2_QcV (.int (bI (fX_mayPass bl x1 x2 x3)))) 0 0 kNo := by
  refine Met.ofW (cc := cX0_mayPass) (maxL := 4) (ret := (some .boolean)) (by decide) rfl ?_
  intro p e s m args below meth c s₁ B hml hv
  obtain ⟨rfl, hP, hK⟩ := hv
  have hx := B.exec
  have hb := B.bytes
  have hr := B.returns
  have hts := atoms_spec (ws := wsX0_mayPass) B.pre
  have hown : s.vm.findClass RX0 = some m.cls := findClass_of_methodNamed B.named
  have hlocks := B.notSynchronized
  have hl := lv_entry ([.ref h0, .int x1, .int x2, .int (bI x3)]) (n := 4) (Nat.le_of_ble_eq_true rfl)
  rw [lg_entry_eq]
  generalize (lg_sl ([.ref h0, .int x1, .int x2, .int (bI x3)]) ++ List.replicate (4 - (lg_sl ([.ref h0, .int x1, .int x2, .int (bI x3)])).length) Slot.unset).toArray = ls at hl ⊢
  have hl : lv_has ls 4 [(0, .ref h0), (1, .int x1), (2, .int x2), (3, .int (bI x3))] := hl
  refine lv_iload_n hx hb dX0_mayPass_0 rfl (lv_at hl 1 rfl) ?_
  refine kc_S [.int x1] [] ⟨hx, hb, hml, hown, hts⟩ (cX_isPlain l x1) (cwS 1 hts gX0_mayPass_X0_isPlain rfl rfl rfl (by decide +kernel) ⟨(Nat.le_of_ble_eq_true rfl), (Nat.le_of_ble_eq_true rfl)⟩) rfl hl.1 rfl (Nat.le_of_ble_eq_true rfl) dX0_mayPass_1 ⟨Nat.zero_le _, Nat.zero_le _⟩ ?_
  refine lv_if_eq (tgt := 44) hx hb dX0_mayPass_4 (by decide) (fun c4 => ?_) (fun c4 => ?_)
  · refine lv_iload_n hx hb dX0_mayPass_44 rfl (lv_at hl 2 rfl) ?_
    refine kc_S [.int x2] [] ⟨hx, hb, hml, hown, hts⟩ (cX_isPlain l x2) (cwS 1 hts gX0_mayPass_X0_isPlain rfl rfl rfl (by decide +kernel) ⟨(Nat.le_of_ble_eq_true rfl), (Nat.le_of_ble_eq_true rfl)⟩) rfl hl.1 rfl (Nat.le_of_ble_eq_true rfl) dX0_mayPass_45 ⟨Nat.zero_le _, Nat.zero_le _⟩ ?_
    refine lv_if_ne (tgt := 53) hx hb dX0_mayPass_48 (by decide) (fun c48 => ?_) (fun c48 => ?_)
    · refine lv_iload_n hx hb dX0_mayPass_53 rfl (lv_at hl 3 rfl) ?_
      refine lv_if_eq (tgt := 84) hx hb dX0_mayPass_54 (by decide) (fun c54 => ?_) (fun c54 => ?_)
      · refine lv_iload_n hx hb dX0_mayPass_84 rfl (lv_at hl 1 rfl) ?_
        refine lv_iload_n hx hb dX0_mayPass_85 rfl (lv_at hl 2 rfl) ?_
        refine kc_S [.int x1, .int x2] [] ⟨hx, hb, hml, hown, hts⟩ (cX_mayUnbox l x1 x2) (cwS 2 hts gX0_mayPass_X0_mayUnbox rfl rfl rfl (by decide +kernel) ⟨(Nat.le_of_ble_eq_true rfl), (Nat.le_of_ble_eq_true rfl)⟩) rfl hl.1 rfl (Nat.le_of_ble_eq_true rfl) dX0_mayPass_86 ⟨Nat.zero_le _, Nat.zero_le _⟩ ?_
        exact W.zret hx hb hr (bI_nar (fX_mayUnbox x1 x2)) (fun t ht hW => ⟨by rw [fX_mayPass, if_pos c4, if_neg c48, if_pos c54] <;> rfl, ht⟩) (fun _ h => by cases h) dX0_mayPass_89
      · refine lv_iload_n hx hb dX0_mayPass_57 rfl (lv_at hl 1 rfl) ?_
        refine lv_bipush (v := 7) hx hb dX0_mayPass_58 (by decide) ?_
        refine lv_icmp_eq (tgt := 76) hx hb dX0_mayPass_60 (by decide) (fun c60 => ?_) (fun c60 => ?_)
        · refine lv_iconst (v := 1) hx hb dX0_mayPass_76 (by decide) ?_
          refine lv_goto (tgt := 89) hx hb dX0_mayPass_77 (by decide) ?_
          exact W.zret hx hb hr rfl (fun t ht hW => ⟨by rw [fX_mayPass, if_pos c4, if_neg c48, if_neg c54, if_pos c60] <;> rfl, ht⟩) (fun _ h => by cases h) dX0_mayPass_89
        · refine lv_iload_n hx hb dX0_mayPass_63 rfl (lv_at hl 1 rfl) ?_
          refine lv_bipush (v := 8) hx hb dX0_mayPass_64 (by decide) ?_
          refine lv_icmp_eq (tgt := 76) hx hb dX0_mayPass_66 (by decide) (fun c66 => ?_) (fun c66 => ?_)
          · refine lv_iconst (v := 1) hx hb dX0_mayPass_76 (by decide) ?_
            refine lv_goto (tgt := 89) hx hb dX0_mayPass_77 (by decide) ?_
            exact W.zret hx hb hr rfl (fun t ht hW => ⟨by rw [fX_mayPass, if_pos c4, if_neg c48, if_neg c54, if_neg c60, if_pos c66] <;> rfl, ht⟩) (fun _ h => by cases h) dX0_mayPass_89
          · refine lv_iload_n hx hb dX0_mayPass_69 rfl (lv_at hl 1 rfl) ?_
            refine kc_S [.int x1] [] ⟨hx, hb, hml, hown, hts⟩ (cX_isBox l x1) (cwS 1 hts gX0_mayPass_X0_isBox rfl rfl rfl (by decide +kernel) ⟨(Nat.le_of_ble_eq_true rfl), (Nat.le_of_ble_eq_true rfl)⟩) rfl hl.1 rfl (Nat.le_of_ble_eq_true rfl) dX0_mayPass_70 ⟨Nat.zero_le _, Nat.zero_le _⟩ ?_
            refine lv_if_eq (tgt := 80) hx hb dX0_mayPass_73 (by decide) (fun c73 => ?_) (fun c73 => ?_)
            · refine lv_iconst (v := 0) hx hb dX0_mayPass_80 (by decide) ?_
              refine lv_goto (tgt := 89) hx hb dX0_mayPass_81 (by decide) ?_
              exact W.zret hx hb hr rfl (fun t ht hW => ⟨by rw [fX_mayPass, if_pos c4, if_neg c48, if_neg c54, if_neg c60, if_neg c66, if_pos c73] <;> rfl, ht⟩) (fun _ h => by cases h) dX0_mayPass_89
            · refine lv_iconst (v := 1) hx hb dX0_mayPass_76 (by decide) ?_
              refine lv_goto (tgt := 89) hx hb dX0_mayPass_77 (by decide) ?_
              exact W.zret hx hb hr rfl (fun t ht hW => ⟨by rw [fX_mayPass, if_pos c4, if_neg c48, if_neg c54, if_neg c60, if_neg c66, if_neg c73] <;> rfl, ht⟩) (fun _ h => by cases h) dX0_mayPass_89
    · refine lv_iconst (v := 1) hx hb dX0_mayPass_51 (by decide) ?_
      exact W.zret hx hb hr rfl (fun t ht hW => ⟨by rw [fX_mayPass, if_pos c4, if_pos c48] <;> rfl, ht⟩) (fun _ h => by cases h) dX0_mayPass_52
  · refine lv_iload_n hx hb dX0_mayPass_7 rfl (lv_at hl 2 rfl) ?_
    refine kc_S [.int x2] [] ⟨hx, hb, hml, hown, hts⟩ (cX_isPlain l x2) (cwS 1 hts gX0_mayPass_X0_isPlain rfl rfl rfl (by decide +kernel) ⟨(Nat.le_of_ble_eq_true rfl), (Nat.le_of_ble_eq_true rfl)⟩) rfl hl.1 rfl (Nat.le_of_ble_eq_true rfl) dX0_mayPass_8 ⟨Nat.zero_le _, Nat.zero_le _⟩ ?_
    refine lv_if_eq (tgt := 34) hx hb dX0_mayPass_11 (by decide) (fun c11 => ?_) (fun c11 => ?_)
    · refine lv_aload_n hx hb dX0_mayPass_34 rfl (lv_at hl 0 rfl) ?_
      refine lv_iload_n hx hb dX0_mayPass_35 rfl (lv_at hl 1 rfl) ?_
      refine lv_bipush (v := 8) hx hb dX0_mayPass_36 (by decide) ?_
      refine lv_iadd hx hb dX0_mayPass_38 ?_
      refine lv_iload_n hx hb dX0_mayPass_39 rfl (lv_at hl 2 rfl) ?_
      refine kc_R [.int (x1 + (8 : Int32)), .int x2] [] ⟨hx, hb, hml, hown, hts⟩ (cX_isBelow l dC dI h0 qa qr qt cI cJ av nk rv nr tv nt pk pn bl (x1 + (8 : Int32)) x2 hAV hnk (kpl_in hnk.1 c4) hx2) (cwV 2 hts gX0_mayPass_X0_isBelow rfl rfl rfl (by decide +kernel) ⟨(Nat.le_of_ble_eq_true rfl), (Nat.le_of_ble_eq_true rfl)⟩) hP hK (ci := 0) (q0 := 0) rfl rfl rfl rfl hl.1 rfl (Nat.le_of_ble_eq_true rfl) dX0_mayPass_40 ⟨Nat.zero_le _, Nat.zero_le _⟩ ?_
      exact W.zret hx hb hr (bI_nar (blI bl (x1 + (8 : Int32)) x2)) (fun t ht hW => ⟨by rw [fX_mayPass, if_neg c4, if_pos c11] <;> rfl, ht⟩) (fun _ h => by cases h) dX0_mayPass_43
    · refine lv_iload_n hx hb dX0_mayPass_14 rfl (lv_at hl 3 rfl) ?_
      refine lv_if_ne (tgt := 26) hx hb dX0_mayPass_15 (by decide) (fun c15 => ?_) (fun c15 => ?_)
      · refine lv_iconst (v := 1) hx hb dX0_mayPass_26 (by decide) ?_
        refine lv_goto (tgt := 43) hx hb dX0_mayPass_27 (by decide) ?_
        exact W.zret hx hb hr rfl (fun t ht hW => ⟨by rw [fX_mayPass, if_neg c4, if_neg c11, if_neg c15] <;> rfl, ht⟩) (fun _ h => by cases h) dX0_mayPass_43
      · refine lv_iload_n hx hb dX0_mayPass_18 rfl (lv_at hl 1 rfl) ?_
        refine lv_iload_n hx hb dX0_mayPass_19 rfl (lv_at hl 2 rfl) ?_
        refine kc_S [.int x1, .int x2] [] ⟨hx, hb, hml, hown, hts⟩ (cX_mayWiden l x1 x2) (cwS 2 hts gX0_mayPass_X0_mayWiden rfl rfl rfl (by decide +kernel) ⟨(Nat.le_of_ble_eq_true rfl), (Nat.le_of_ble_eq_true rfl)⟩) rfl hl.1 rfl (Nat.le_of_ble_eq_true rfl) dX0_mayPass_20 ⟨Nat.zero_le _, Nat.zero_le _⟩ ?_
        refine lv_if_eq (tgt := 30) hx hb dX0_mayPass_23 (by decide) (fun c23 => ?_) (fun c23 => ?_)
        · refine lv_iconst (v := 0) hx hb dX0_mayPass_30 (by decide) ?_
          refine lv_goto (tgt := 43) hx hb dX0_mayPass_31 (by decide) ?_
          exact W.zret hx hb hr rfl (fun t ht hW => ⟨by rw [fX_mayPass, if_neg c4, if_neg c11, if_pos c15, if_pos c23] <;> rfl, ht⟩) (fun _ h => by cases h) dX0_mayPass_43
        · refine lv_iconst (v := 1) hx hb dX0_mayPass_26 (by decide) ?_
          refine lv_goto (tgt := 43) hx hb dX0_mayPass_27 (by decide) ?_
          exact W.zret hx hb hr rfl (fun t ht hW => ⟨by rw [fX_mayPass, if_neg c4, if_neg c11, if_pos c15, if_neg c23] <;> rfl, ht⟩) (fun _ h => by cases h) dX0_mayPass_43
def fX_may (nk : Nat) (bl : Nat → Nat → Bool) (x1 : Int32) (x2 : Int32) (x3 : Bool) (x4 : Bool) : Bool := if (bI (fX_isKind nk x1)) = 0 then false else if (bI (fX_isKind nk x2)) = 0 then false else if x1 = 0 then x4 else if x2 = 0 then x4 else (fX_mayPass bl x1 x2 x3)
set_option maxHeartbeats 4000000 in
set_option maxRecDepth 100000 in
theorem cX_may (l : Launch) (dC : Nat → ClassId) (dI : Nat → Nat → Nat) (h0 qa qr qt : Nat) (cI cJ : ClassId) (av : Nat → Int32) (nk : Nat) (rv : Nat → Int32) (nr : Nat) (tv : Nat → Int64) (nt : Nat) (pk : Int32) (pn : Int64) (bl : Nat → Nat → Bool) (x1 : Int32) (x2 : Int32) (x3 : Bool) (x4 : Bool) (hAV : kAV bl av nk) (hnk : 20 ≤ nk ∧ nk ≤ 32) : Met l yX0_may wsX0_may ({ frames := 3, cells := 0, slots := 0, locals := 65 }) (kPr (dC, dI) vwCl [(cI, .int), (cJ, .long)] (xW h0 qa qr qt cI cJ av nk rv nr tv nt pk pn) [.ref h0, .int x1, .int x2, .int (bI x3), .int (bI x4)]) (k2_QcV (.int (bI (fX_may nk bl x1 x2 x3 x4)))) 0 0 kNo := by
  refine Met.ofW (cc := cX0_may) (maxL := 5) (ret := (some .boolean)) (by decide) rfl ?_
  intro p e s m args below meth c s₁ B hml hv
  obtain ⟨rfl, hP, hK⟩ := hv
  have hx := B.exec
  have hb := B.bytes
  have hr := B.returns
  have hts := atoms_spec (ws := wsX0_may) B.pre
  have hown : s.vm.findClass RX0 = some m.cls := findClass_of_methodNamed B.named
  have hlocks := B.notSynchronized
  have hl := lv_entry ([.ref h0, .int x1, .int x2, .int (bI x3), .int (bI x4)]) (n := 5) (Nat.le_of_ble_eq_true rfl)
  rw [lg_entry_eq]
  generalize (lg_sl ([.ref h0, .int x1, .int x2, .int (bI x3), .int (bI x4)]) ++ List.replicate (5 - (lg_sl ([.ref h0, .int x1, .int x2, .int (bI x3), .int (bI x4)])).length) Slot.unset).toArray = ls at hl ⊢
  have hl : lv_has ls 5 [(0, .ref h0), (1, .int x1), (2, .int x2), (3, .int (bI x3)), (4, .int (bI x4))] := hl
  refine lv_aload_n hx hb dX0_may_0 rfl (lv_at hl 0 rfl) ?_
  refine lv_iload_n hx hb dX0_may_1 rfl (lv_at hl 1 rfl) ?_
  refine kc_R [.int x1] [] ⟨hx, hb, hml, hown, hts⟩ (cX_isKind l dC dI h0 qa qr qt cI cJ av nk rv nr tv nt pk pn x1) (cwV 1 hts gX0_may_X0_isKind rfl rfl rfl (by decide +kernel) ⟨(Nat.le_of_ble_eq_true rfl), (Nat.le_of_ble_eq_true rfl)⟩) hP hK (ci := 0) (q0 := 0) rfl rfl rfl rfl hl.1 rfl (Nat.le_of_ble_eq_true rfl) dX0_may_2 ⟨Nat.zero_le _, Nat.zero_le _⟩ ?_
  refine lv_if_eq (tgt := 16) hx hb dX0_may_5 (by decide) (fun c5 => ?_) (fun c5 => ?_)
  · refine lv_iconst (v := 0) hx hb dX0_may_16 (by decide) ?_
    exact W.zret hx hb hr rfl (fun t ht hW => ⟨by rw [fX_may, if_pos c5] <;> rfl, ht⟩) (fun _ h => by cases h) dX0_may_17
  · refine lv_aload_n hx hb dX0_may_8 rfl (lv_at hl 0 rfl) ?_
    refine lv_iload_n hx hb dX0_may_9 rfl (lv_at hl 2 rfl) ?_
    refine kc_R [.int x2] [] ⟨hx, hb, hml, hown, hts⟩ (cX_isKind l dC dI h0 qa qr qt cI cJ av nk rv nr tv nt pk pn x2) (cwV 1 hts gX0_may_X0_isKind rfl rfl rfl (by decide +kernel) ⟨(Nat.le_of_ble_eq_true rfl), (Nat.le_of_ble_eq_true rfl)⟩) hP hK (ci := 0) (q0 := 0) rfl rfl rfl rfl hl.1 rfl (Nat.le_of_ble_eq_true rfl) dX0_may_10 ⟨Nat.zero_le _, Nat.zero_le _⟩ ?_
    refine lv_if_ne (tgt := 18) hx hb dX0_may_13 (by decide) (fun c13 => ?_) (fun c13 => ?_)
    · refine lv_iload_n hx hb dX0_may_18 rfl (lv_at hl 1 rfl) ?_
      refine lv_if_eq (tgt := 26) hx hb dX0_may_19 (by decide) (fun c19 => ?_) (fun c19 => ?_)
      · refine lv_iload hx hb dX0_may_26 (lv_at hl 4 rfl) ?_
        exact W.zret hx hb hr (bI_nar x4) (fun t ht hW => ⟨by rw [fX_may, if_neg c5, if_neg c13, if_pos c19] <;> rfl, ht⟩) (fun _ h => by cases h) dX0_may_28
      · refine lv_iload_n hx hb dX0_may_22 rfl (lv_at hl 2 rfl) ?_
        refine lv_if_ne (tgt := 29) hx hb dX0_may_23 (by decide) (fun c23 => ?_) (fun c23 => ?_)
        · refine lv_aload_n hx hb dX0_may_29 rfl (lv_at hl 0 rfl) ?_
          refine lv_iload_n hx hb dX0_may_30 rfl (lv_at hl 1 rfl) ?_
          refine lv_iload_n hx hb dX0_may_31 rfl (lv_at hl 2 rfl) ?_
          refine lv_iload_n hx hb dX0_may_32 rfl (lv_at hl 3 rfl) ?_
          refine kc_R [.int x1, .int x2, .int (bI x3)] [] ⟨hx, hb, hml, hown, hts⟩ (cX_mayPass l dC dI h0 qa qr qt cI cJ av nk rv nr tv nt pk pn bl x1 x2 x3 hAV hnk (vp_in_mono (kK_in hnk.2 c13) hnk.2)) (cwV 3 hts gX0_may_X0_mayPass rfl rfl rfl (by decide +kernel) ⟨(Nat.le_of_ble_eq_true rfl), (Nat.le_of_ble_eq_true rfl)⟩) hP hK (ci := 0) (q0 := 0) rfl rfl rfl rfl hl.1 rfl (Nat.le_of_ble_eq_true rfl) dX0_may_33 ⟨Nat.zero_le _, Nat.zero_le _⟩ ?_
          exact W.zret hx hb hr (bI_nar (fX_mayPass bl x1 x2 x3)) (fun t ht hW => ⟨by rw [fX_may, if_neg c5, if_neg c13, if_neg c19, if_neg c23] <;> rfl, ht⟩) (fun _ h => by cases h) dX0_may_36
        · refine lv_iload hx hb dX0_may_26 (lv_at hl 4 rfl) ?_
          exact W.zret hx hb hr (bI_nar x4) (fun t ht hW => ⟨by rw [fX_may, if_neg c5, if_neg c13, if_neg c19, if_pos c23] <;> rfl, ht⟩) (fun _ h => by cases h) dX0_may_28
    · refine lv_iconst (v := 0) hx hb dX0_may_16 (by decide) ?_
      exact W.zret hx hb hr rfl (fun t ht hW => ⟨by rw [fX_may, if_neg c5, if_pos c13] <;> rfl, ht⟩) (fun _ h => by cases h) dX0_may_17
def fX_below (nk : Nat) (bl : Nat → Nat → Bool) (x1 : Int32) (x2 : Int32) : Bool := if (bI (fX_isKind nk x1)) = 0 then false else if (bI (fX_isKind nk x2)) = 0 then false else if (bI (blI bl x1 x2)) = 0 then false else true
set_option maxHeartbeats 4000000 in
set_option maxRecDepth 100000 in
theorem cX_below (l : Launch) (dC : Nat → ClassId) (dI : Nat → Nat → Nat) (h0 qa qr qt : Nat) (cI cJ : ClassId) (av : Nat → Int32) (nk : Nat) (rv : Nat → Int32) (nr : Nat) (tv : Nat → Int64) (nt : Nat) (pk : Int32) (pn : Int64) (bl : Nat → Nat → Bool) (x1 : Int32) (x2 : Int32) (hAV : kAV bl av nk) (hnk : 20 ≤ nk ∧ nk ≤ 32) : Met l yX0_below wsX0_below ({ frames := 1, cells := 0, slots := 0, locals := 22 }) (kPr (dC, dI) vwCl [(cI, .int), (cJ, .long)] (xW h0 qa qr qt cI cJ av nk rv nr tv nt pk pn) [.ref h0, .int x1, .int x2]) (k2_QcV (.int (bI (fX_below nk bl x1 x2)))) 0 0 kNo := by
  refine Met.ofW (cc := cX0_below) (maxL := 3) (ret := (some .boolean)) (by decide) rfl ?_
  intro p e s m args below meth c s₁ B hml hv
  obtain ⟨rfl, hP, hK⟩ := hv
  have hx := B.exec
  have hb := B.bytes
  have hr := B.returns
  have hts := atoms_spec (ws := wsX0_below) B.pre
  have hown : s.vm.findClass RX0 = some m.cls := findClass_of_methodNamed B.named
  have hlocks := B.notSynchronized
  have hl := lv_entry ([.ref h0, .int x1, .int x2]) (n := 3) (Nat.le_of_ble_eq_true rfl)
  rw [lg_entry_eq]
  generalize (lg_sl ([.ref h0, .int x1, .int x2]) ++ List.replicate (3 - (lg_sl ([.ref h0, .int x1, .int x2])).length) Slot.unset).toArray = ls at hl ⊢
  have hl : lv_has ls 3 [(0, .ref h0), (1, .int x1), (2, .int x2)] := hl
  refine lv_aload_n hx hb dX0_below_0 rfl (lv_at hl 0 rfl) ?_
  refine lv_iload_n hx hb dX0_below_1 rfl (lv_at hl 1 rfl) ?_
  refine kc_R [.int x1] [] ⟨hx, hb, hml, hown, hts⟩ (cX_isKind l dC dI h0 qa qr qt cI cJ av nk rv nr tv nt pk pn x1) (cwV 1 hts gX0_below_X0_isKind rfl rfl rfl (by decide +kernel) ⟨(Nat.le_of_ble_eq_true rfl), (Nat.le_of_ble_eq_true rfl)⟩) hP hK (ci := 0) (q0 := 0) rfl rfl rfl rfl hl.1 rfl (Nat.le_of_ble_eq_true rfl) dX0_below_2 ⟨Nat.zero_le _, Nat.zero_le _⟩ ?_
  refine lv_if_eq (tgt := 29) hx hb dX0_below_5 (by decide) (fun c5 => ?_) (fun c5 => ?_)
  · refine lv_iconst (v := 0) hx hb dX0_below_29 (by decide) ?_
    exact W.zret hx hb hr rfl (fun t ht hW => ⟨by rw [fX_below, if_pos c5] <;> rfl, ht⟩) (fun _ h => by cases h) dX0_below_30
  · refine lv_aload_n hx hb dX0_below_8 rfl (lv_at hl 0 rfl) ?_
    refine lv_iload_n hx hb dX0_below_9 rfl (lv_at hl 2 rfl) ?_
    refine kc_R [.int x2] [] ⟨hx, hb, hml, hown, hts⟩ (cX_isKind l dC dI h0 qa qr qt cI cJ av nk rv nr tv nt pk pn x2) (cwV 1 hts gX0_below_X0_isKind rfl rfl rfl (by decide +kernel) ⟨(Nat.le_of_ble_eq_true rfl), (Nat.le_of_ble_eq_true rfl)⟩) hP hK (ci := 0) (q0 := 0) rfl rfl rfl rfl hl.1 rfl (Nat.le_of_ble_eq_true rfl) dX0_below_10 ⟨Nat.zero_le _, Nat.zero_le _⟩ ?_
    refine lv_if_eq (tgt := 29) hx hb dX0_below_13 (by decide) (fun c13 => ?_) (fun c13 => ?_)
    · refine lv_iconst (v := 0) hx hb dX0_below_29 (by decide) ?_
      exact W.zret hx hb hr rfl (fun t ht hW => ⟨by rw [fX_below, if_neg c5, if_pos c13] <;> rfl, ht⟩) (fun _ h => by cases h) dX0_below_30
    · refine lv_aload_n hx hb dX0_below_16 rfl (lv_at hl 0 rfl) ?_
      refine lv_iload_n hx hb dX0_below_17 rfl (lv_at hl 1 rfl) ?_
      refine lv_iload_n hx hb dX0_below_18 rfl (lv_at hl 2 rfl) ?_
      refine kc_R [.int x1, .int x2] [] ⟨hx, hb, hml, hown, hts⟩ (cX_isBelow l dC dI h0 qa qr qt cI cJ av nk rv nr tv nt pk pn bl x1 x2 hAV hnk (kK_in hnk.2 c5) (vp_in_mono (kK_in hnk.2 c13) hnk.2)) (cwV 2 hts gX0_below_X0_isBelow rfl rfl rfl (by decide +kernel) ⟨(Nat.le_of_ble_eq_true rfl), (Nat.le_of_ble_eq_true rfl)⟩) hP hK (ci := 0) (q0 := 0) rfl rfl rfl rfl hl.1 rfl (Nat.le_of_ble_eq_true rfl) dX0_below_19 ⟨Nat.zero_le _, Nat.zero_le _⟩ ?_
      refine lv_if_eq (tgt := 29) hx hb dX0_below_22 (by decide) (fun c22 => ?_) (fun c22 => ?_)
      · refine lv_iconst (v := 0) hx hb dX0_below_29 (by decide) ?_
        exact W.zret hx hb hr rfl (fun t ht hW => ⟨by rw [fX_below, if_neg c5, if_neg c13, if_pos c22] <;> rfl, ht⟩) (fun _ h => by cases h) dX0_below_30
      · refine lv_iconst (v := 1) hx hb dX0_below_25 (by decide) ?_
        refine lv_goto (tgt := 30) hx hb dX0_below_26 (by decide) ?_
        exact W.zret hx hb hr rfl (fun t ht hW => ⟨by rw [fX_below, if_neg c5, if_neg c13, if_neg c22] <;> rfl, ht⟩) (fun _ h => by cases h) dX0_below_30
def fX_typeAbout (tv : Nat → Int64) (nt : Nat) (x1 : Int32) (x2 : Int32) : Int32 := if (bI (fX_isType nt x1)) = 0 then (-1 : Int32) else if x2 = (-1 : Int32) then fX_resultOf (tv x1.toNatClampNeg) else if x2 = (-2 : Int32) then fX_placesOf (tv x1.toNatClampNeg) else if x2 < 0 then (-1 : Int32) else if (fX_placesOf (tv x1.toNatClampNeg)) ≤ x2 then (-1 : Int32) else fX_placeOf (tv x1.toNatClampNeg) x2
set_option maxHeartbeats 4000000 in
set_option maxRecDepth 100000 in
theorem cX_typeAbout (l : Launch) (dC : Nat → ClassId) (dI : Nat → Nat → Nat) (h0 qa qr qt : Nat) (cI cJ : ClassId) (av : Nat → Int32) (nk : Nat) (rv : Nat → Int32) (nr : Nat) (tv : Nat → Int64) (nt : Nat) (pk : Int32) (pn : Int64) (x1 : Int32) (x2 : Int32) (hnt : nt ≤ 300) : Met l yX0_typeAbout wsX0_typeAbout ({ frames := 2, cells := 0, slots := 0, locals := 42 }) (kPr (dC, dI) vwCl [(cI, .int), (cJ, .long)] (xW h0 qa qr qt cI cJ av nk rv nr tv nt pk pn) [.ref h0, .int x1, .int x2]) (k2_QcV (.int (fX_typeAbout tv nt x1 x2))) 0 0 kNo := by
  refine Met.ofW (cc := cX0_typeAbout) (maxL := 5) (ret := (some .int)) (by decide) rfl ?_
  intro p e s m args below meth c s₁ B hml hv
  obtain ⟨rfl, hP, hK⟩ := hv
  have hx := B.exec
  have hb := B.bytes
  have hr := B.returns
  have hts := atoms_spec (ws := wsX0_typeAbout) B.pre
  have hown : s.vm.findClass RX0 = some m.cls := findClass_of_methodNamed B.named
  have hlocks := B.notSynchronized
  have hin : ∀ w ∈ u_ws RX0 TX0 8, w ∈ wsX0_typeAbout := by decide +kernel
  have hl := lv_entry ([.ref h0, .int x1, .int x2]) (n := 5) (Nat.le_of_ble_eq_true rfl)
  rw [lg_entry_eq]
  generalize (lg_sl ([.ref h0, .int x1, .int x2]) ++ List.replicate (5 - (lg_sl ([.ref h0, .int x1, .int x2])).length) Slot.unset).toArray = ls at hl ⊢
  have hl : lv_has ls 5 [(0, .ref h0), (1, .int x1), (2, .int x2)] := hl
  refine lv_aload_n hx hb dX0_typeAbout_0 rfl (lv_at hl 0 rfl) ?_
  refine lv_iload_n hx hb dX0_typeAbout_1 rfl (lv_at hl 1 rfl) ?_
  refine kc_R [.int x1] [] ⟨hx, hb, hml, hown, hts⟩ (cX_isType l dC dI h0 qa qr qt cI cJ av nk rv nr tv nt pk pn x1) (cwV 1 hts gX0_typeAbout_X0_isType rfl rfl rfl (by decide +kernel) ⟨(Nat.le_of_ble_eq_true rfl), (Nat.le_of_ble_eq_true rfl)⟩) hP hK (ci := 0) (q0 := 0) rfl rfl rfl rfl hl.1 rfl (Nat.le_of_ble_eq_true rfl) dX0_typeAbout_2 ⟨Nat.zero_le _, Nat.zero_le _⟩ ?_
  refine lv_if_ne (tgt := 10) hx hb dX0_typeAbout_5 (by decide) (fun c5 => ?_) (fun c5 => ?_)
  · refine lv_aload_n hx hb dX0_typeAbout_10 rfl (lv_at hl 0 rfl) ?_
    refine va_get (D := (dC, dI)) (ci := 0) (v := .ref qt) (C := RX0) (T := TX0) (N := 8) hx hb hts hin hown hK hP 0 rfl rfl 4 (by decide) (hts (.fieldLink RX0 27 "KindTable" "types" "[J") (by decide +kernel)) (fun _ h9 => h9) rfl dX0_typeAbout_11 ?_
    refine lv_iload_n hx hb dX0_typeAbout_14 rfl (lv_at hl 1 rfl) ?_
    refine va_lald hx hb hK hP 3 1 rfl rfl (vp_in_mono (kT_in hnt c5) hnt) dX0_typeAbout_15 ?_
    refine lv_lstore_n (lv' := [(3, .long (tv x1.toNatClampNeg)), (0, .ref h0), (1, .int x1), (2, .int x2)]) hx hb dX0_typeAbout_16 rfl hl (by decide) rfl (fun ls hl => ?_)
    refine lv_iload_n hx hb dX0_typeAbout_17 rfl (lv_at hl 3 rfl) ?_
    refine lv_iconst (v := -1) hx hb dX0_typeAbout_18 (by decide) ?_
    refine lv_icmp_ne (tgt := 27) hx hb dX0_typeAbout_19 (by decide) (fun c19 => ?_) (fun c19 => ?_)
    · refine lv_iload_n hx hb dX0_typeAbout_27 rfl (lv_at hl 3 rfl) ?_
      refine lv_bipush (v := -2) hx hb dX0_typeAbout_28 (by decide) ?_
      refine lv_icmp_ne (tgt := 38) hx hb dX0_typeAbout_30 (by decide) (fun c30 => ?_) (fun c30 => ?_)
      · refine lv_iload_n hx hb dX0_typeAbout_38 rfl (lv_at hl 3 rfl) ?_
        refine lv_if_lt (tgt := 58) hx hb dX0_typeAbout_39 (by decide) (fun c39 => ?_) (fun c39 => ?_)
        · refine lv_iconst (v := -1) hx hb dX0_typeAbout_58 (by decide) ?_
          exact W.iret hx hb hr (fun t ht hW => ⟨by rw [fX_typeAbout, if_neg c5, if_neg c19, if_neg c30, if_pos c39] <;> rfl, ht⟩) (fun _ h => by cases h) dX0_typeAbout_59
        · refine lv_iload_n hx hb dX0_typeAbout_42 rfl (lv_at hl 3 rfl) ?_
          refine lv_lload_n hx hb dX0_typeAbout_43 rfl (lv_at hl 0 rfl) ?_
          refine kc_S [.long (tv x1.toNatClampNeg)] [.int x2] ⟨hx, hb, hml, hown, hts⟩ (cX_placesOf l (tv x1.toNatClampNeg)) (cwS 1 hts gX0_typeAbout_X0_placesOf rfl rfl rfl (by decide +kernel) ⟨(Nat.le_of_ble_eq_true rfl), (Nat.le_of_ble_eq_true rfl)⟩) rfl hl.1 rfl (Nat.le_of_ble_eq_true rfl) dX0_typeAbout_44 ⟨Nat.zero_le _, Nat.zero_le _⟩ ?_
          refine lv_icmp_ge (tgt := 58) hx hb dX0_typeAbout_47 (by decide) (fun c47 => ?_) (fun c47 => ?_)
          · refine lv_iconst (v := -1) hx hb dX0_typeAbout_58 (by decide) ?_
            exact W.iret hx hb hr (fun t ht hW => ⟨by rw [fX_typeAbout, if_neg c5, if_neg c19, if_neg c30, if_neg c39, if_pos c47] <;> rfl, ht⟩) (fun _ h => by cases h) dX0_typeAbout_59
          · refine lv_lload_n hx hb dX0_typeAbout_50 rfl (lv_at hl 0 rfl) ?_
            refine lv_iload_n hx hb dX0_typeAbout_51 rfl (lv_at hl 3 rfl) ?_
            refine kc_S [.long (tv x1.toNatClampNeg), .int x2] [] ⟨hx, hb, hml, hown, hts⟩ (cX_placeOf l (tv x1.toNatClampNeg) x2) (cwS 2 hts gX0_typeAbout_X0_placeOf rfl rfl rfl (by decide +kernel) ⟨(Nat.le_of_ble_eq_true rfl), (Nat.le_of_ble_eq_true rfl)⟩) rfl hl.1 rfl (Nat.le_of_ble_eq_true rfl) dX0_typeAbout_52 ⟨Nat.zero_le _, Nat.zero_le _⟩ ?_
            refine lv_goto (tgt := 59) hx hb dX0_typeAbout_55 (by decide) ?_
            exact W.iret hx hb hr (fun t ht hW => ⟨by rw [fX_typeAbout, if_neg c5, if_neg c19, if_neg c30, if_neg c39, if_neg c47] <;> rfl, ht⟩) (fun _ h => by cases h) dX0_typeAbout_59
      · refine lv_lload_n hx hb dX0_typeAbout_33 rfl (lv_at hl 0 rfl) ?_
        refine kc_S [.long (tv x1.toNatClampNeg)] [] ⟨hx, hb, hml, hown, hts⟩ (cX_placesOf l (tv x1.toNatClampNeg)) (cwS 1 hts gX0_typeAbout_X0_placesOf rfl rfl rfl (by decide +kernel) ⟨(Nat.le_of_ble_eq_true rfl), (Nat.le_of_ble_eq_true rfl)⟩) rfl hl.1 rfl (Nat.le_of_ble_eq_true rfl) dX0_typeAbout_34 ⟨Nat.zero_le _, Nat.zero_le _⟩ ?_
        exact W.iret hx hb hr (fun t ht hW => ⟨by rw [fX_typeAbout, if_neg c5, if_neg c19, if_pos c30] <;> rfl, ht⟩) (fun _ h => by cases h) dX0_typeAbout_37
    · refine lv_lload_n hx hb dX0_typeAbout_22 rfl (lv_at hl 0 rfl) ?_
      refine kc_S [.long (tv x1.toNatClampNeg)] [] ⟨hx, hb, hml, hown, hts⟩ (cX_resultOf l (tv x1.toNatClampNeg)) (cwS 1 hts gX0_typeAbout_X0_resultOf rfl rfl rfl (by decide +kernel) ⟨(Nat.le_of_ble_eq_true rfl), (Nat.le_of_ble_eq_true rfl)⟩) rfl hl.1 rfl (Nat.le_of_ble_eq_true rfl) dX0_typeAbout_23 ⟨Nat.zero_le _, Nat.zero_le _⟩ ?_
      exact W.iret hx hb hr (fun t ht hW => ⟨by rw [fX_typeAbout, if_neg c5, if_pos c19] <;> rfl, ht⟩) (fun _ h => by cases h) dX0_typeAbout_26
  · refine lv_iconst (v := -1) hx hb dX0_typeAbout_8 (by decide) ?_
    exact W.iret hx hb hr (fun t ht hW => ⟨by rw [fX_typeAbout, if_pos c5] <;> rfl, ht⟩) (fun _ h => by cases h) dX0_typeAbout_9
theorem kmay_in {nk : Nat} {bl : Nat → Nat → Bool} {x y : Int32} {f e : Bool} (hn : nk ≤ 32) (h : ¬ bI (fX_may nk bl x y f e) = 0) : vp_in x nk ∧ vp_in y nk := by
  by_cases c : bI (fX_isKind nk x) = 0
  · exact absurd (by rw [fX_may, if_pos c]; rfl) h
  · by_cases c2 : bI (fX_isKind nk y) = 0
    · exact absurd (by rw [fX_may, if_neg c, if_pos c2]; rfl) h
    · exact ⟨kK_in hn c, kK_in hn c2⟩
theorem meet_bit {bl : Nat → Nat → Bool} {av : Nat → Int32} {nk q : Nat} (h : kAV bl av nk) (hn : nk ≤ 32) {x y : Int32} (hx : vp_in x nk) (hy : vp_in y nk) (hq : q < 32) : ((((av x.toNatClampNeg) &&& (av y.toNatClampNeg)).toUInt32 >>> ((nI q).toUInt32 &&& Int32.toUInt32 31)).toInt32 &&& 1 = 0) ↔ (bl x.toNatClampNeg q && bl y.toNatClampNeg q) = false := by
  obtain ⟨i, hi, rfl⟩ := vp_in_of hx (by omega)
  obtain ⟨j, hj, rfl⟩ := vp_in_of hy (by omega)
  rw [k_and1, b_ushr q hq, Nat.add_zero, nI_clamp (by omega), nI_clamp (by omega), b_and, h i hi q hq, h j hj q hq]
end
section
set_option maxHeartbeats 4000000 in
set_option maxRecDepth 100000 in
theorem cX_keep (l : Launch) (dC : Nat → ClassId) (dI : Nat → Nat → Nat) (h0 qa qr qt : Nat) (cI cJ : ClassId) (av : Nat → Int32) (nk : Nat) (rv : Nat → Int32) (nr : Nat) (tv : Nat → Int64) (nt : Nat) (pk : Int32) (pn : Int64) (x1 : Int32) (x2 : Int64) : Met l yX0_keep wsX0_keep ({ frames := 0, cells := 0, slots := 0, locals := 0 }) (kPw (dC, dI) vwCl [(cI, .int), (cJ, .long)] (xW h0 qa qr qt cI cJ av nk rv nr tv nt pk pn) [.ref h0, .int x1, .long x2]) (kQw (dC, dI) vwCl (some (.int (0 : Int32))) (xW h0 qa qr qt cI cJ av nk rv nr tv nt x1 x2) [h0, qa, qr, qt]) 0 0 (fun q => q ∈ [h0, qa, qr, qt]) := by
  refine Met.ofW (cc := cX0_keep) (maxL := 4) (ret := (some .int)) (by decide) rfl ?_
  intro p e s m args below meth c s₁ B hml hv
  obtain ⟨rfl, hP, hK, hD0⟩ := hv
  have hx := B.exec
  have hb := B.bytes
  have hr := B.returns
  have hts := atoms_spec (ws := wsX0_keep) B.pre
  have hown : s.vm.findClass RX0 = some m.cls := findClass_of_methodNamed B.named
  have hlocks := B.notSynchronized
  have hin : ∀ w ∈ u_ws RX0 TX0 8, w ∈ wsX0_keep := by decide +kernel
  have hD : va_D (fun q => q ∈ [h0, qa, qr, qt]) (xW h0 qa qr qt cI cJ av nk rv nr tv nt pk pn) := kD_self hD0 rfl
  have hS : va_S (fun q => q ∈ [h0, qa, qr, qt]) s.heap s.heap [] := va_S.rf
  have hl := lv_entry ([.ref h0, .int x1, .long x2]) (n := 4) (Nat.le_of_ble_eq_true rfl)
  rw [lg_entry_eq]
  generalize (lg_sl ([.ref h0, .int x1, .long x2]) ++ List.replicate (4 - (lg_sl ([.ref h0, .int x1, .long x2])).length) Slot.unset).toArray = ls at hl ⊢
  have hl : lv_has ls 4 [(0, .ref h0), (1, .int x1), (2, .long x2)] := hl
  refine lv_aload_n hx hb dX0_keep_0 rfl (lv_at hl 0 rfl) ?_
  refine lv_iload_n hx hb dX0_keep_1 rfl (lv_at hl 1 rfl) ?_
  refine va_put (D := (dC, dI)) (ci := 0) (v := .int x1) (ty := .int) (C := RX0) (T := TX0) (N := 8) hx hb hts hin tyX0 tyX0_ok nmX0 hown hK hP hD hS 0 rfl rfl 6 (by decide) (hts (.fieldLink RX0 34 "KindTable" "passedKind" "I") (by decide +kernel)) (fun _ h9 => h9) rfl (by decide +kernel) rfl rfl (Nat.le_of_ble_eq_true rfl) dX0_keep_2 (fun H locs hP hD hS => ?_)
  have hP : va_P (dC, dI) vwCl (xW h0 qa qr qt cI cJ av nk rv nr tv nt x1 pn) H := hP
  have hD : va_D _ (xW h0 qa qr qt cI cJ av nk rv nr tv nt x1 pn) := hD
  refine lv_aload_n hx hb dX0_keep_5 rfl (lv_at hl 0 rfl) ?_
  refine lv_lload_n hx hb dX0_keep_6 rfl (lv_at hl 2 rfl) ?_
  refine va_put (D := (dC, dI)) (ci := 0) (v := .long x2) (ty := .long) (C := RX0) (T := TX0) (N := 8) hx hb hts hin tyX0 tyX0_ok nmX0 hown hK hP hD hS 0 rfl rfl 7 (by decide) (hts (.fieldLink RX0 37 "KindTable" "passedNumber" "J") (by decide +kernel)) (fun _ h9 => h9) rfl (by decide +kernel) rfl rfl (Nat.le_of_ble_eq_true rfl) dX0_keep_7 (fun H locs hP hD hS => ?_)
  have hP : va_P (dC, dI) vwCl (xW h0 qa qr qt cI cJ av nk rv nr tv nt x1 x2) H := hP
  have hD : va_D _ (xW h0 qa qr qt cI cJ av nk rv nr tv nt x1 x2) := hD
  refine lv_iconst (v := 0) hx hb dX0_keep_10 (by decide) ?_
  exact W.iret hx hb hr (fun t ht hW => ⟨rfl, by rw [ht]; exact hP, hS.F ht⟩) hS.2.2 dX0_keep_11
def fX_passPlain  (x1 : Int32) (x2 : Int32) (x3 : Int64) : Int32 × Int32 × Int64 := if (bI (fX_isPlain x2)) = 0 then ((0 : Int32), (x1 + (8 : Int32)), x3) else ((0 : Int32), (0 : Int32), (fX_lowest x2 x3))
set_option maxHeartbeats 4000000 in
set_option maxRecDepth 100000 in
theorem cX_passPlain (l : Launch) (dC : Nat → ClassId) (dI : Nat → Nat → Nat) (h0 qa qr qt : Nat) (cI cJ : ClassId) (av : Nat → Int32) (nk : Nat) (rv : Nat → Int32) (nr : Nat) (tv : Nat → Int64) (nt : Nat) (pk : Int32) (pn : Int64) (x1 : Int32) (x2 : Int32) (x3 : Int64) : Met l yX0_passPlain wsX0_passPlain ({ frames := 1, cells := 0, slots := 0, locals := 23 }) (kPw (dC, dI) vwCl [(cI, .int), (cJ, .long)] (xW h0 qa qr qt cI cJ av nk rv nr tv nt pk pn) [.ref h0, .int x1, .int x2, .long x3]) (kQw (dC, dI) vwCl (some (.int ((fX_passPlain x1 x2 x3).1))) (xW h0 qa qr qt cI cJ av nk rv nr tv nt ((fX_passPlain x1 x2 x3).2.1) ((fX_passPlain x1 x2 x3).2.2)) [h0, qa, qr, qt]) 0 0 (fun q => q ∈ [h0, qa, qr, qt]) := by
  refine Met.ofW (cc := cX0_passPlain) (maxL := 5) (ret := (some .int)) (by decide) rfl ?_
  intro p e s m args below meth c s₁ B hml hv
  obtain ⟨rfl, hP, hK, hD0⟩ := hv
  have hx := B.exec
  have hb := B.bytes
  have hr := B.returns
  have hts := atoms_spec (ws := wsX0_passPlain) B.pre
  have hown : s.vm.findClass RX0 = some m.cls := findClass_of_methodNamed B.named
  have hlocks := B.notSynchronized
  have hD : va_D (fun q => q ∈ [h0, qa, qr, qt]) (xW h0 qa qr qt cI cJ av nk rv nr tv nt pk pn) := kD_self hD0 rfl
  have hS : va_S (fun q => q ∈ [h0, qa, qr, qt]) s.heap s.heap [] := va_S.rf
  have hl := lv_entry ([.ref h0, .int x1, .int x2, .long x3]) (n := 5) (Nat.le_of_ble_eq_true rfl)
  rw [lg_entry_eq]
  generalize (lg_sl ([.ref h0, .int x1, .int x2, .long x3]) ++ List.replicate (5 - (lg_sl ([.ref h0, .int x1, .int x2, .long x3])).length) Slot.unset).toArray = ls at hl ⊢
  have hl : lv_has ls 5 [(0, .ref h0), (1, .int x1), (2, .int x2), (3, .long x3)] := hl
  refine lv_iload_n hx hb dX0_passPlain_0 rfl (lv_at hl 2 rfl) ?_
  refine kc_S [.int x2] [] ⟨hx, hb, hml, hown, hts⟩ (cX_isPlain l x2) (cwS 1 hts gX0_passPlain_X0_isPlain rfl rfl rfl (by decide +kernel) ⟨(Nat.le_of_ble_eq_true rfl), (Nat.le_of_ble_eq_true rfl)⟩) rfl hl.1 rfl (Nat.le_of_ble_eq_true rfl) dX0_passPlain_1 ⟨Nat.zero_le _, Nat.zero_le _⟩ ?_
  refine lv_if_eq (tgt := 18) hx hb dX0_passPlain_4 (by decide) (fun c4 => ?_) (fun c4 => ?_)
  · refine lv_aload_n hx hb dX0_passPlain_18 rfl (lv_at hl 0 rfl) ?_
    refine lv_iload_n hx hb dX0_passPlain_19 rfl (lv_at hl 1 rfl) ?_
    refine lv_bipush (v := 8) hx hb dX0_passPlain_20 (by decide) ?_
    refine lv_iadd hx hb dX0_passPlain_22 ?_
    refine lv_lload_n hx hb dX0_passPlain_23 rfl (lv_at hl 3 rfl) ?_
    refine kc_W [.int (x1 + (8 : Int32)), .long x3] [] ⟨hx, hb, hml, hown, hts⟩ (cX_keep l dC dI h0 qa qr qt cI cJ av nk rv nr tv nt pk pn (x1 + (8 : Int32)) x3) (cwV 2 hts gX0_passPlain_X0_keep rfl rfl rfl (by decide +kernel) ⟨(Nat.le_of_ble_eq_true rfl), (Nat.le_of_ble_eq_true rfl)⟩) hP hK hD hS rfl (ci := 0) (q0 := 0) rfl rfl rfl rfl hl.1 rfl (Nat.le_of_ble_eq_true rfl) dX0_passPlain_24 ⟨Nat.zero_le _, Nat.zero_le _⟩ (fun H locs hP1 hS hk1 => ?_)
    have hP : va_P (dC, dI) vwCl (xW h0 qa qr qt cI cJ av nk rv nr tv nt (x1 + (8 : Int32)) x3) H := hP1
    have hD : va_D _ (xW h0 qa qr qt cI cJ av nk rv nr tv nt (x1 + (8 : Int32)) x3) := kD_same hD rfl
    exact W.iret hx hb hr (fun t ht hW => ⟨by rw [fX_passPlain, if_pos c4] <;> rfl, by rw [ht, fX_passPlain, if_pos c4]; exact hP, hS.F ht⟩) hS.2.2 dX0_passPlain_27
  · refine lv_aload_n hx hb dX0_passPlain_7 rfl (lv_at hl 0 rfl) ?_
    refine lv_iconst (v := 0) hx hb dX0_passPlain_8 (by decide) ?_
    refine lv_iload_n hx hb dX0_passPlain_9 rfl (lv_at hl 2 rfl) ?_
    refine lv_lload_n hx hb dX0_passPlain_10 rfl (lv_at hl 3 rfl) ?_
    refine kc_S [.int x2, .long x3] [.int 0, .ref h0] ⟨hx, hb, hml, hown, hts⟩ (cX_lowest l x2 x3) (cwS 2 hts gX0_passPlain_X0_lowest rfl rfl rfl (by decide +kernel) ⟨(Nat.le_of_ble_eq_true rfl), (Nat.le_of_ble_eq_true rfl)⟩) rfl hl.1 rfl (Nat.le_of_ble_eq_true rfl) dX0_passPlain_11 ⟨Nat.zero_le _, Nat.zero_le _⟩ ?_
    refine kc_W [.int 0, .long (fX_lowest x2 x3)] [] ⟨hx, hb, hml, hown, hts⟩ (cX_keep l dC dI h0 qa qr qt cI cJ av nk rv nr tv nt pk pn (0 : Int32) (fX_lowest x2 x3)) (cwV 2 hts gX0_passPlain_X0_keep rfl rfl rfl (by decide +kernel) ⟨(Nat.le_of_ble_eq_true rfl), (Nat.le_of_ble_eq_true rfl)⟩) hP hK hD hS rfl (ci := 0) (q0 := 0) rfl rfl rfl rfl hl.1 rfl (Nat.le_of_ble_eq_true rfl) dX0_passPlain_14 ⟨Nat.zero_le _, Nat.zero_le _⟩ (fun H locs hP1 hS hk1 => ?_)
    have hP : va_P (dC, dI) vwCl (xW h0 qa qr qt cI cJ av nk rv nr tv nt (0 : Int32) (fX_lowest x2 x3)) H := hP1
    have hD : va_D _ (xW h0 qa qr qt cI cJ av nk rv nr tv nt (0 : Int32) (fX_lowest x2 x3)) := kD_same hD rfl
    exact W.iret hx hb hr (fun t ht hW => ⟨by rw [fX_passPlain, if_neg c4] <;> rfl, by rw [ht, fX_passPlain, if_neg c4]; exact hP, hS.F ht⟩) hS.2.2 dX0_passPlain_17
def fX_passNull (pk : Int32) (pn : Int64) (x1 : Int32) (x2 : Bool) : Int32 × Int32 × Int64 := if (bI (fX_isPlain x1)) = 0 then ((0 : Int32), (0 : Int32), (0 : Int64)) else if (bI x2) = 0 then ((1 : Int32), pk, pn) else ((0 : Int32), (0 : Int32), (0 : Int64))
set_option maxHeartbeats 4000000 in
set_option maxRecDepth 100000 in
theorem cX_passNull (l : Launch) (dC : Nat → ClassId) (dI : Nat → Nat → Nat) (h0 qa qr qt : Nat) (cI cJ : ClassId) (av : Nat → Int32) (nk : Nat) (rv : Nat → Int32) (nr : Nat) (tv : Nat → Int64) (nt : Nat) (pk : Int32) (pn : Int64) (x1 : Int32) (x2 : Bool) : Met l yX0_passNull wsX0_passNull ({ frames := 1, cells := 0, slots := 0, locals := 23 }) (kPw (dC, dI) vwCl [(cI, .int), (cJ, .long)] (xW h0 qa qr qt cI cJ av nk rv nr tv nt pk pn) [.ref h0, .int x1, .int (bI x2)]) (kQw (dC, dI) vwCl (some (.int ((fX_passNull pk pn x1 x2).1))) (xW h0 qa qr qt cI cJ av nk rv nr tv nt ((fX_passNull pk pn x1 x2).2.1) ((fX_passNull pk pn x1 x2).2.2)) [h0, qa, qr, qt]) 0 0 (fun q => q ∈ [h0, qa, qr, qt]) := by
  refine Met.ofW (cc := cX0_passNull) (maxL := 3) (ret := (some .int)) (by decide) rfl ?_
  intro p e s m args below meth c s₁ B hml hv
  obtain ⟨rfl, hP, hK, hD0⟩ := hv
  have hx := B.exec
  have hb := B.bytes
  have hr := B.returns
  have hts := atoms_spec (ws := wsX0_passNull) B.pre
  have hown : s.vm.findClass RX0 = some m.cls := findClass_of_methodNamed B.named
  have hlocks := B.notSynchronized
  have hD : va_D (fun q => q ∈ [h0, qa, qr, qt]) (xW h0 qa qr qt cI cJ av nk rv nr tv nt pk pn) := kD_self hD0 rfl
  have hS : va_S (fun q => q ∈ [h0, qa, qr, qt]) s.heap s.heap [] := va_S.rf
  have hl := lv_entry ([.ref h0, .int x1, .int (bI x2)]) (n := 3) (Nat.le_of_ble_eq_true rfl)
  rw [lg_entry_eq]
  generalize (lg_sl ([.ref h0, .int x1, .int (bI x2)]) ++ List.replicate (3 - (lg_sl ([.ref h0, .int x1, .int (bI x2)])).length) Slot.unset).toArray = ls at hl ⊢
  have hl : lv_has ls 3 [(0, .ref h0), (1, .int x1), (2, .int (bI x2))] := hl
  refine lv_iload_n hx hb dX0_passNull_0 rfl (lv_at hl 1 rfl) ?_
  refine kc_S [.int x1] [] ⟨hx, hb, hml, hown, hts⟩ (cX_isPlain l x1) (cwS 1 hts gX0_passNull_X0_isPlain rfl rfl rfl (by decide +kernel) ⟨(Nat.le_of_ble_eq_true rfl), (Nat.le_of_ble_eq_true rfl)⟩) rfl hl.1 rfl (Nat.le_of_ble_eq_true rfl) dX0_passNull_1 ⟨Nat.zero_le _, Nat.zero_le _⟩ ?_
  refine lv_if_eq (tgt := 13) hx hb dX0_passNull_4 (by decide) (fun c4 => ?_) (fun c4 => ?_)
  · refine lv_aload_n hx hb dX0_passNull_13 rfl (lv_at hl 0 rfl) ?_
    refine lv_iconst (v := 0) hx hb dX0_passNull_14 (by decide) ?_
    refine lv_lconst (v := 0) hx hb dX0_passNull_15 (by decide) ?_
    refine kc_W [.int 0, .long 0] [] ⟨hx, hb, hml, hown, hts⟩ (cX_keep l dC dI h0 qa qr qt cI cJ av nk rv nr tv nt pk pn (0 : Int32) (0 : Int64)) (cwV 2 hts gX0_passNull_X0_keep rfl rfl rfl (by decide +kernel) ⟨(Nat.le_of_ble_eq_true rfl), (Nat.le_of_ble_eq_true rfl)⟩) hP hK hD hS rfl (ci := 0) (q0 := 0) rfl rfl rfl rfl hl.1 rfl (Nat.le_of_ble_eq_true rfl) dX0_passNull_16 ⟨Nat.zero_le _, Nat.zero_le _⟩ (fun H locs hP1 hS hk1 => ?_)
    have hP : va_P (dC, dI) vwCl (xW h0 qa qr qt cI cJ av nk rv nr tv nt (0 : Int32) (0 : Int64)) H := hP1
    have hD : va_D _ (xW h0 qa qr qt cI cJ av nk rv nr tv nt (0 : Int32) (0 : Int64)) := kD_same hD rfl
    exact W.iret hx hb hr (fun t ht hW => ⟨by rw [fX_passNull, if_pos c4] <;> rfl, by rw [ht, fX_passNull, if_pos c4]; exact hP, hS.F ht⟩) hS.2.2 dX0_passNull_19
  · refine lv_iload_n hx hb dX0_passNull_7 rfl (lv_at hl 2 rfl) ?_
    refine lv_if_ne (tgt := 13) hx hb dX0_passNull_8 (by decide) (fun c8 => ?_) (fun c8 => ?_)
    · refine lv_aload_n hx hb dX0_passNull_13 rfl (lv_at hl 0 rfl) ?_
      refine lv_iconst (v := 0) hx hb dX0_passNull_14 (by decide) ?_
      refine lv_lconst (v := 0) hx hb dX0_passNull_15 (by decide) ?_
      refine kc_W [.int 0, .long 0] [] ⟨hx, hb, hml, hown, hts⟩ (cX_keep l dC dI h0 qa qr qt cI cJ av nk rv nr tv nt pk pn (0 : Int32) (0 : Int64)) (cwV 2 hts gX0_passNull_X0_keep rfl rfl rfl (by decide +kernel) ⟨(Nat.le_of_ble_eq_true rfl), (Nat.le_of_ble_eq_true rfl)⟩) hP hK hD hS rfl (ci := 0) (q0 := 0) rfl rfl rfl rfl hl.1 rfl (Nat.le_of_ble_eq_true rfl) dX0_passNull_16 ⟨Nat.zero_le _, Nat.zero_le _⟩ (fun H locs hP1 hS hk1 => ?_)
      have hP : va_P (dC, dI) vwCl (xW h0 qa qr qt cI cJ av nk rv nr tv nt (0 : Int32) (0 : Int64)) H := hP1
      have hD : va_D _ (xW h0 qa qr qt cI cJ av nk rv nr tv nt (0 : Int32) (0 : Int64)) := kD_same hD rfl
      exact W.iret hx hb hr (fun t ht hW => ⟨by rw [fX_passNull, if_neg c4, if_neg c8] <;> rfl, by rw [ht, fX_passNull, if_neg c4, if_neg c8]; exact hP, hS.F ht⟩) hS.2.2 dX0_passNull_19
    · refine lv_iconst (v := 1) hx hb dX0_passNull_11 (by decide) ?_
      exact W.iret hx hb hr (fun t ht hW => ⟨by rw [fX_passNull, if_neg c4, if_pos c8] <;> rfl, by rw [ht, fX_passNull, if_neg c4, if_pos c8]; exact hP, hS.F ht⟩) hS.2.2 dX0_passNull_12
def fX_passAsPlain (pk : Int32) (pn : Int64) (x1 : Int32) (x2 : Bool) (x3 : Int32) (x4 : Int64) : Int32 × Int32 × Int64 := if (bI (fX_isBox x3)) = 0 then ((2 : Int32), pk, pn) else if (bI x2) = 0 then if (bI (fX_mayWiden (x3 - (8 : Int32)) x1)) = 0 then ((2 : Int32), pk, pn) else ((0 : Int32), (0 : Int32), (fX_lowest x1 x4)) else ((0 : Int32), (0 : Int32), (fX_lowest x1 x4))
set_option maxHeartbeats 4000000 in
set_option maxRecDepth 100000 in
theorem cX_passAsPlain (l : Launch) (dC : Nat → ClassId) (dI : Nat → Nat → Nat) (h0 qa qr qt : Nat) (cI cJ : ClassId) (av : Nat → Int32) (nk : Nat) (rv : Nat → Int32) (nr : Nat) (tv : Nat → Int64) (nt : Nat) (pk : Int32) (pn : Int64) (x1 : Int32) (x2 : Bool) (x3 : Int32) (x4 : Int64) : Met l yX0_passAsPlain wsX0_passAsPlain ({ frames := 1, cells := 0, slots := 0, locals := 23 }) (kPw (dC, dI) vwCl [(cI, .int), (cJ, .long)] (xW h0 qa qr qt cI cJ av nk rv nr tv nt pk pn) [.ref h0, .int x1, .int (bI x2), .int x3, .long x4]) (kQw (dC, dI) vwCl (some (.int ((fX_passAsPlain pk pn x1 x2 x3 x4).1))) (xW h0 qa qr qt cI cJ av nk rv nr tv nt ((fX_passAsPlain pk pn x1 x2 x3 x4).2.1) ((fX_passAsPlain pk pn x1 x2 x3 x4).2.2)) [h0, qa, qr, qt]) 0 0 (fun q => q ∈ [h0, qa, qr, qt]) := by
  refine Met.ofW (cc := cX0_passAsPlain) (maxL := 6) (ret := (some .int)) (by decide) rfl ?_
  intro p e s m args below meth c s₁ B hml hv
  obtain ⟨rfl, hP, hK, hD0⟩ := hv
  have hx := B.exec
  have hb := B.bytes
  have hr := B.returns
  have hts := atoms_spec (ws := wsX0_passAsPlain) B.pre
  have hown : s.vm.findClass RX0 = some m.cls := findClass_of_methodNamed B.named
  have hlocks := B.notSynchronized
  have hD : va_D (fun q => q ∈ [h0, qa, qr, qt]) (xW h0 qa qr qt cI cJ av nk rv nr tv nt pk pn) := kD_self hD0 rfl
  have hS : va_S (fun q => q ∈ [h0, qa, qr, qt]) s.heap s.heap [] := va_S.rf
  have hl := lv_entry ([.ref h0, .int x1, .int (bI x2), .int x3, .long x4]) (n := 6) (Nat.le_of_ble_eq_true rfl)
  rw [lg_entry_eq]
  generalize (lg_sl ([.ref h0, .int x1, .int (bI x2), .int x3, .long x4]) ++ List.replicate (6 - (lg_sl ([.ref h0, .int x1, .int (bI x2), .int x3, .long x4])).length) Slot.unset).toArray = ls at hl ⊢
  have hl : lv_has ls 6 [(0, .ref h0), (1, .int x1), (2, .int (bI x2)), (3, .int x3), (4, .long x4)] := hl
  refine lv_iload_n hx hb dX0_passAsPlain_0 rfl (lv_at hl 3 rfl) ?_
  refine kc_S [.int x3] [] ⟨hx, hb, hml, hown, hts⟩ (cX_isBox l x3) (cwS 1 hts gX0_passAsPlain_X0_isBox rfl rfl rfl (by decide +kernel) ⟨(Nat.le_of_ble_eq_true rfl), (Nat.le_of_ble_eq_true rfl)⟩) rfl hl.1 rfl (Nat.le_of_ble_eq_true rfl) dX0_passAsPlain_1 ⟨Nat.zero_le _, Nat.zero_le _⟩ ?_
  refine lv_if_eq (tgt := 22) hx hb dX0_passAsPlain_4 (by decide) (fun c4 => ?_) (fun c4 => ?_)
  · refine lv_iconst (v := 2) hx hb dX0_passAsPlain_22 (by decide) ?_
    exact W.iret hx hb hr (fun t ht hW => ⟨by rw [fX_passAsPlain, if_pos c4] <;> rfl, by rw [ht, fX_passAsPlain, if_pos c4]; exact hP, hS.F ht⟩) hS.2.2 dX0_passAsPlain_23
  · refine lv_iload_n hx hb dX0_passAsPlain_7 rfl (lv_at hl 2 rfl) ?_
    refine lv_if_ne (tgt := 24) hx hb dX0_passAsPlain_8 (by decide) (fun c8 => ?_) (fun c8 => ?_)
    · refine lv_aload_n hx hb dX0_passAsPlain_24 rfl (lv_at hl 0 rfl) ?_
      refine lv_iconst (v := 0) hx hb dX0_passAsPlain_25 (by decide) ?_
      refine lv_iload_n hx hb dX0_passAsPlain_26 rfl (lv_at hl 1 rfl) ?_
      refine lv_lload hx hb dX0_passAsPlain_27 (lv_at hl 4 rfl) ?_
      refine kc_S [.int x1, .long x4] [.int 0, .ref h0] ⟨hx, hb, hml, hown, hts⟩ (cX_lowest l x1 x4) (cwS 2 hts gX0_passAsPlain_X0_lowest rfl rfl rfl (by decide +kernel) ⟨(Nat.le_of_ble_eq_true rfl), (Nat.le_of_ble_eq_true rfl)⟩) rfl hl.1 rfl (Nat.le_of_ble_eq_true rfl) dX0_passAsPlain_29 ⟨Nat.zero_le _, Nat.zero_le _⟩ ?_
      refine kc_W [.int 0, .long (fX_lowest x1 x4)] [] ⟨hx, hb, hml, hown, hts⟩ (cX_keep l dC dI h0 qa qr qt cI cJ av nk rv nr tv nt pk pn (0 : Int32) (fX_lowest x1 x4)) (cwV 2 hts gX0_passAsPlain_X0_keep rfl rfl rfl (by decide +kernel) ⟨(Nat.le_of_ble_eq_true rfl), (Nat.le_of_ble_eq_true rfl)⟩) hP hK hD hS rfl (ci := 0) (q0 := 0) rfl rfl rfl rfl hl.1 rfl (Nat.le_of_ble_eq_true rfl) dX0_passAsPlain_32 ⟨Nat.zero_le _, Nat.zero_le _⟩ (fun H locs hP1 hS hk1 => ?_)
      have hP : va_P (dC, dI) vwCl (xW h0 qa qr qt cI cJ av nk rv nr tv nt (0 : Int32) (fX_lowest x1 x4)) H := hP1
      have hD : va_D _ (xW h0 qa qr qt cI cJ av nk rv nr tv nt (0 : Int32) (fX_lowest x1 x4)) := kD_same hD rfl
      exact W.iret hx hb hr (fun t ht hW => ⟨by rw [fX_passAsPlain, if_neg c4, if_neg c8] <;> rfl, by rw [ht, fX_passAsPlain, if_neg c4, if_neg c8]; exact hP, hS.F ht⟩) hS.2.2 dX0_passAsPlain_35
    · refine lv_iload_n hx hb dX0_passAsPlain_11 rfl (lv_at hl 3 rfl) ?_
      refine lv_bipush (v := 8) hx hb dX0_passAsPlain_12 (by decide) ?_
      refine lv_isub hx hb dX0_passAsPlain_14 ?_
      refine lv_iload_n hx hb dX0_passAsPlain_15 rfl (lv_at hl 1 rfl) ?_
      refine kc_S [.int (x3 - (8 : Int32)), .int x1] [] ⟨hx, hb, hml, hown, hts⟩ (cX_mayWiden l (x3 - (8 : Int32)) x1) (cwS 2 hts gX0_passAsPlain_X0_mayWiden rfl rfl rfl (by decide +kernel) ⟨(Nat.le_of_ble_eq_true rfl), (Nat.le_of_ble_eq_true rfl)⟩) rfl hl.1 rfl (Nat.le_of_ble_eq_true rfl) dX0_passAsPlain_16 ⟨Nat.zero_le _, Nat.zero_le _⟩ ?_
      refine lv_if_ne (tgt := 24) hx hb dX0_passAsPlain_19 (by decide) (fun c19 => ?_) (fun c19 => ?_)
      · refine lv_aload_n hx hb dX0_passAsPlain_24 rfl (lv_at hl 0 rfl) ?_
        refine lv_iconst (v := 0) hx hb dX0_passAsPlain_25 (by decide) ?_
        refine lv_iload_n hx hb dX0_passAsPlain_26 rfl (lv_at hl 1 rfl) ?_
        refine lv_lload hx hb dX0_passAsPlain_27 (lv_at hl 4 rfl) ?_
        refine kc_S [.int x1, .long x4] [.int 0, .ref h0] ⟨hx, hb, hml, hown, hts⟩ (cX_lowest l x1 x4) (cwS 2 hts gX0_passAsPlain_X0_lowest rfl rfl rfl (by decide +kernel) ⟨(Nat.le_of_ble_eq_true rfl), (Nat.le_of_ble_eq_true rfl)⟩) rfl hl.1 rfl (Nat.le_of_ble_eq_true rfl) dX0_passAsPlain_29 ⟨Nat.zero_le _, Nat.zero_le _⟩ ?_
        refine kc_W [.int 0, .long (fX_lowest x1 x4)] [] ⟨hx, hb, hml, hown, hts⟩ (cX_keep l dC dI h0 qa qr qt cI cJ av nk rv nr tv nt pk pn (0 : Int32) (fX_lowest x1 x4)) (cwV 2 hts gX0_passAsPlain_X0_keep rfl rfl rfl (by decide +kernel) ⟨(Nat.le_of_ble_eq_true rfl), (Nat.le_of_ble_eq_true rfl)⟩) hP hK hD hS rfl (ci := 0) (q0 := 0) rfl rfl rfl rfl hl.1 rfl (Nat.le_of_ble_eq_true rfl) dX0_passAsPlain_32 ⟨Nat.zero_le _, Nat.zero_le _⟩ (fun H locs hP1 hS hk1 => ?_)
        have hP : va_P (dC, dI) vwCl (xW h0 qa qr qt cI cJ av nk rv nr tv nt (0 : Int32) (fX_lowest x1 x4)) H := hP1
        have hD : va_D _ (xW h0 qa qr qt cI cJ av nk rv nr tv nt (0 : Int32) (fX_lowest x1 x4)) := kD_same hD rfl
        exact W.iret hx hb hr (fun t ht hW => ⟨by rw [fX_passAsPlain, if_neg c4, if_pos c8, if_neg c19] <;> rfl, by rw [ht, fX_passAsPlain, if_neg c4, if_pos c8, if_neg c19]; exact hP, hS.F ht⟩) hS.2.2 dX0_passAsPlain_35
      · refine lv_iconst (v := 2) hx hb dX0_passAsPlain_22 (by decide) ?_
        exact W.iret hx hb hr (fun t ht hW => ⟨by rw [fX_passAsPlain, if_neg c4, if_pos c8, if_pos c19] <;> rfl, by rw [ht, fX_passAsPlain, if_neg c4, if_pos c8, if_pos c19]; exact hP, hS.F ht⟩) hS.2.2 dX0_passAsPlain_23
def fX_passAsReference (pk : Int32) (pn : Int64) (bl : Nat → Nat → Bool) (x1 : Int32) (x2 : Int32) (x3 : Int64) : Int32 × Int32 × Int64 := if (bI (blI bl x2 x1)) = 0 then ((2 : Int32), pk, pn) else ((0 : Int32), x2, x3)
set_option maxHeartbeats 4000000 in
set_option maxRecDepth 100000 in
theorem cX_passAsReference (l : Launch) (dC : Nat → ClassId) (dI : Nat → Nat → Nat) (h0 qa qr qt : Nat) (cI cJ : ClassId) (av : Nat → Int32) (nk : Nat) (rv : Nat → Int32) (nr : Nat) (tv : Nat → Int64) (nt : Nat) (pk : Int32) (pn : Int64) (bl : Nat → Nat → Bool) (x1 : Int32) (x2 : Int32) (x3 : Int64) (hAV : kAV bl av nk) (hnk : 20 ≤ nk ∧ nk ≤ 32) (hx1 : vp_in x1 32) (hx2 : vp_in x2 nk) : Met l yX0_passAsReference wsX0_passAsReference ({ frames := 1, cells := 0, slots := 0, locals := 23 }) (kPw (dC, dI) vwCl [(cI, .int), (cJ, .long)] (xW h0 qa qr qt cI cJ av nk rv nr tv nt pk pn) [.ref h0, .int x1, .int x2, .long x3]) (kQw (dC, dI) vwCl (some (.int ((fX_passAsReference pk pn bl x1 x2 x3).1))) (xW h0 qa qr qt cI cJ av nk rv nr tv nt ((fX_passAsReference pk pn bl x1 x2 x3).2.1) ((fX_passAsReference pk pn bl x1 x2 x3).2.2)) [h0, qa, qr, qt]) 0 0 (fun q => q ∈ [h0, qa, qr, qt]) := by
  refine Met.ofW (cc := cX0_passAsReference) (maxL := 5) (ret := (some .int)) (by decide) rfl ?_
  intro p e s m args below meth c s₁ B hml hv
  obtain ⟨rfl, hP, hK, hD0⟩ := hv
  have hx := B.exec
  have hb := B.bytes
  have hr := B.returns
  have hts := atoms_spec (ws := wsX0_passAsReference) B.pre
  have hown : s.vm.findClass RX0 = some m.cls := findClass_of_methodNamed B.named
  have hlocks := B.notSynchronized
  have hD : va_D (fun q => q ∈ [h0, qa, qr, qt]) (xW h0 qa qr qt cI cJ av nk rv nr tv nt pk pn) := kD_self hD0 rfl
  have hS : va_S (fun q => q ∈ [h0, qa, qr, qt]) s.heap s.heap [] := va_S.rf
  have hl := lv_entry ([.ref h0, .int x1, .int x2, .long x3]) (n := 5) (Nat.le_of_ble_eq_true rfl)
  rw [lg_entry_eq]
  generalize (lg_sl ([.ref h0, .int x1, .int x2, .long x3]) ++ List.replicate (5 - (lg_sl ([.ref h0, .int x1, .int x2, .long x3])).length) Slot.unset).toArray = ls at hl ⊢
  have hl : lv_has ls 5 [(0, .ref h0), (1, .int x1), (2, .int x2), (3, .long x3)] := hl
  refine lv_aload_n hx hb dX0_passAsReference_0 rfl (lv_at hl 0 rfl) ?_
  refine lv_iload_n hx hb dX0_passAsReference_1 rfl (lv_at hl 2 rfl) ?_
  refine lv_iload_n hx hb dX0_passAsReference_2 rfl (lv_at hl 1 rfl) ?_
  refine kc_R [.int x2, .int x1] [] ⟨hx, hb, hml, hown, hts⟩ (cX_isBelow l dC dI h0 qa qr qt cI cJ av nk rv nr tv nt pk pn bl x2 x1 hAV hnk hx2 hx1) (cwV 2 hts gX0_passAsReference_X0_isBelow rfl rfl rfl (by decide +kernel) ⟨(Nat.le_of_ble_eq_true rfl), (Nat.le_of_ble_eq_true rfl)⟩) hP hK (ci := 0) (q0 := 0) rfl rfl rfl rfl hl.1 rfl (Nat.le_of_ble_eq_true rfl) dX0_passAsReference_3 ⟨Nat.zero_le _, Nat.zero_le _⟩ ?_
  refine lv_if_eq (tgt := 18) hx hb dX0_passAsReference_6 (by decide) (fun c6 => ?_) (fun c6 => ?_)
  · refine lv_iconst (v := 2) hx hb dX0_passAsReference_18 (by decide) ?_
    exact W.iret hx hb hr (fun t ht hW => ⟨by rw [fX_passAsReference, if_pos c6] <;> rfl, by rw [ht, fX_passAsReference, if_pos c6]; exact hP, hS.F ht⟩) hS.2.2 dX0_passAsReference_19
  · refine lv_aload_n hx hb dX0_passAsReference_9 rfl (lv_at hl 0 rfl) ?_
    refine lv_iload_n hx hb dX0_passAsReference_10 rfl (lv_at hl 2 rfl) ?_
    refine lv_lload_n hx hb dX0_passAsReference_11 rfl (lv_at hl 3 rfl) ?_
    refine kc_W [.int x2, .long x3] [] ⟨hx, hb, hml, hown, hts⟩ (cX_keep l dC dI h0 qa qr qt cI cJ av nk rv nr tv nt pk pn x2 x3) (cwV 2 hts gX0_passAsReference_X0_keep rfl rfl rfl (by decide +kernel) ⟨(Nat.le_of_ble_eq_true rfl), (Nat.le_of_ble_eq_true rfl)⟩) hP hK hD hS rfl (ci := 0) (q0 := 0) rfl rfl rfl rfl hl.1 rfl (Nat.le_of_ble_eq_true rfl) dX0_passAsReference_12 ⟨Nat.zero_le _, Nat.zero_le _⟩ (fun H locs hP1 hS hk1 => ?_)
    have hP : va_P (dC, dI) vwCl (xW h0 qa qr qt cI cJ av nk rv nr tv nt x2 x3) H := hP1
    have hD : va_D _ (xW h0 qa qr qt cI cJ av nk rv nr tv nt x2 x3) := kD_same hD rfl
    refine lv_goto (tgt := 19) hx hb dX0_passAsReference_15 (by decide) ?_
    exact W.iret hx hb hr (fun t ht hW => ⟨by rw [fX_passAsReference, if_neg c6] <;> rfl, by rw [ht, fX_passAsReference, if_neg c6]; exact hP, hS.F ht⟩) hS.2.2 dX0_passAsReference_19
def fX_pass (nk : Nat) (pk : Int32) (pn : Int64) (bl : Nat → Nat → Bool) (x1 : Int32) (x2 : Int32) (x3 : Bool) (x4 : Int32) (x5 : Int64) : Int32 × Int32 × Int64 := if (bI (fX_may nk bl x1 x2 x3 false)) = 0 then ((-1 : Int32), pk, pn) else if (bI (fX_isPlain x1)) = 0 then if x4 = 0 then ((fX_passNull pk pn x2 x3).1, (fX_passNull pk pn x2 x3).2.1, (fX_passNull pk pn x2 x3).2.2) else if (bI (fX_isObject nk x4 x5)) = 0 then ((-1 : Int32), pk, pn) else if (bI (blI bl x4 x1)) = 0 then ((-1 : Int32), pk, pn) else if (bI (fX_isPlain x2)) = 0 then ((fX_passAsReference pk pn bl x2 x4 x5).1, (fX_passAsReference pk pn bl x2 x4 x5).2.1, (fX_passAsReference pk pn bl x2 x4 x5).2.2) else ((fX_passAsPlain pk pn x2 x3 x4 x5).1, (fX_passAsPlain pk pn x2 x3 x4 x5).2.1, (fX_passAsPlain pk pn x2 x3 x4 x5).2.2) else if (bI (fX_fits x1 x5)) = 0 then ((-1 : Int32), pk, pn) else ((fX_passPlain x1 x2 x5).1, (fX_passPlain x1 x2 x5).2.1, (fX_passPlain x1 x2 x5).2.2)
set_option maxHeartbeats 4000000 in
set_option maxRecDepth 100000 in
theorem cX_pass (l : Launch) (dC : Nat → ClassId) (dI : Nat → Nat → Nat) (h0 qa qr qt : Nat) (cI cJ : ClassId) (av : Nat → Int32) (nk : Nat) (rv : Nat → Int32) (nr : Nat) (tv : Nat → Int64) (nt : Nat) (pk : Int32) (pn : Int64) (bl : Nat → Nat → Bool) (x1 : Int32) (x2 : Int32) (x3 : Bool) (x4 : Int32) (x5 : Int64) (hAV : kAV bl av nk) (hnk : 20 ≤ nk ∧ nk ≤ 32) : Met l yX0_pass wsX0_pass ({ frames := 4, cells := 0, slots := 0, locals := 89 }) (kPw (dC, dI) vwCl [(cI, .int), (cJ, .long)] (xW h0 qa qr qt cI cJ av nk rv nr tv nt pk pn) [.ref h0, .int x1, .int x2, .int (bI x3), .int x4, .long x5]) (kQw (dC, dI) vwCl (some (.int ((fX_pass nk pk pn bl x1 x2 x3 x4 x5).1))) (xW h0 qa qr qt cI cJ av nk rv nr tv nt ((fX_pass nk pk pn bl x1 x2 x3 x4 x5).2.1) ((fX_pass nk pk pn bl x1 x2 x3 x4 x5).2.2)) [h0, qa, qr, qt]) 0 0 (fun q => q ∈ [h0, qa, qr, qt]) := by
  refine Met.ofW (cc := cX0_pass) (maxL := 7) (ret := (some .int)) (by decide) rfl ?_
  intro p e s m args below meth c s₁ B hml hv
  obtain ⟨rfl, hP, hK, hD0⟩ := hv
  have hx := B.exec
  have hb := B.bytes
  have hr := B.returns
  have hts := atoms_spec (ws := wsX0_pass) B.pre
  have hown : s.vm.findClass RX0 = some m.cls := findClass_of_methodNamed B.named
  have hlocks := B.notSynchronized
  have hD : va_D (fun q => q ∈ [h0, qa, qr, qt]) (xW h0 qa qr qt cI cJ av nk rv nr tv nt pk pn) := kD_self hD0 rfl
  have hS : va_S (fun q => q ∈ [h0, qa, qr, qt]) s.heap s.heap [] := va_S.rf
  have hl := lv_entry ([.ref h0, .int x1, .int x2, .int (bI x3), .int x4, .long x5]) (n := 7) (Nat.le_of_ble_eq_true rfl)
  rw [lg_entry_eq]
  generalize (lg_sl ([.ref h0, .int x1, .int x2, .int (bI x3), .int x4, .long x5]) ++ List.replicate (7 - (lg_sl ([.ref h0, .int x1, .int x2, .int (bI x3), .int x4, .long x5])).length) Slot.unset).toArray = ls at hl ⊢
  have hl : lv_has ls 7 [(0, .ref h0), (1, .int x1), (2, .int x2), (3, .int (bI x3)), (4, .int x4), (5, .long x5)] := hl
  refine lv_aload_n hx hb dX0_pass_0 rfl (lv_at hl 0 rfl) ?_
  refine lv_iload_n hx hb dX0_pass_1 rfl (lv_at hl 1 rfl) ?_
  refine lv_iload_n hx hb dX0_pass_2 rfl (lv_at hl 2 rfl) ?_
  refine lv_iload_n hx hb dX0_pass_3 rfl (lv_at hl 3 rfl) ?_
  refine lv_iconst (v := 0) hx hb dX0_pass_4 (by decide) ?_
  refine kc_R [.int x1, .int x2, .int (bI x3), .int 0] [] ⟨hx, hb, hml, hown, hts⟩ (cX_may l dC dI h0 qa qr qt cI cJ av nk rv nr tv nt pk pn bl x1 x2 x3 false hAV hnk) (cwV 4 hts gX0_pass_X0_may rfl rfl rfl (by decide +kernel) ⟨(Nat.le_of_ble_eq_true rfl), (Nat.le_of_ble_eq_true rfl)⟩) hP hK (ci := 0) (q0 := 0) rfl rfl rfl rfl hl.1 rfl (Nat.le_of_ble_eq_true rfl) dX0_pass_5 ⟨Nat.zero_le _, Nat.zero_le _⟩ ?_
  refine lv_if_ne (tgt := 13) hx hb dX0_pass_8 (by decide) (fun c8 => ?_) (fun c8 => ?_)
  · refine lv_iload_n hx hb dX0_pass_13 rfl (lv_at hl 1 rfl) ?_
    refine kc_S [.int x1] [] ⟨hx, hb, hml, hown, hts⟩ (cX_isPlain l x1) (cwS 1 hts gX0_pass_X0_isPlain rfl rfl rfl (by decide +kernel) ⟨(Nat.le_of_ble_eq_true rfl), (Nat.le_of_ble_eq_true rfl)⟩) rfl hl.1 rfl (Nat.le_of_ble_eq_true rfl) dX0_pass_14 ⟨Nat.zero_le _, Nat.zero_le _⟩ ?_
    refine lv_if_eq (tgt := 42) hx hb dX0_pass_17 (by decide) (fun c17 => ?_) (fun c17 => ?_)
    · refine lv_iload hx hb dX0_pass_42 (lv_at hl 4 rfl) ?_
      refine lv_if_ne (tgt := 54) hx hb dX0_pass_44 (by decide) (fun c44 => ?_) (fun c44 => ?_)
      · refine lv_aload_n hx hb dX0_pass_54 rfl (lv_at hl 0 rfl) ?_
        refine lv_iload hx hb dX0_pass_55 (lv_at hl 4 rfl) ?_
        refine lv_lload hx hb dX0_pass_57 (lv_at hl 5 rfl) ?_
        refine kc_R [.int x4, .long x5] [] ⟨hx, hb, hml, hown, hts⟩ (cX_isObject l dC dI h0 qa qr qt cI cJ av nk rv nr tv nt pk pn x4 x5) (cwV 2 hts gX0_pass_X0_isObject rfl rfl rfl (by decide +kernel) ⟨(Nat.le_of_ble_eq_true rfl), (Nat.le_of_ble_eq_true rfl)⟩) hP hK (ci := 0) (q0 := 0) rfl rfl rfl rfl hl.1 rfl (Nat.le_of_ble_eq_true rfl) dX0_pass_59 ⟨Nat.zero_le _, Nat.zero_le _⟩ ?_
        refine lv_if_eq (tgt := 75) hx hb dX0_pass_62 (by decide) (fun c62 => ?_) (fun c62 => ?_)
        · refine lv_iconst (v := -1) hx hb dX0_pass_75 (by decide) ?_
          exact W.iret hx hb hr (fun t ht hW => ⟨by rw [fX_pass, if_neg c8, if_pos c17, if_neg c44, if_pos c62] <;> rfl, by rw [ht, fX_pass, if_neg c8, if_pos c17, if_neg c44, if_pos c62]; exact hP, hS.F ht⟩) hS.2.2 dX0_pass_76
        · refine lv_aload_n hx hb dX0_pass_65 rfl (lv_at hl 0 rfl) ?_
          refine lv_iload hx hb dX0_pass_66 (lv_at hl 4 rfl) ?_
          refine lv_iload_n hx hb dX0_pass_68 rfl (lv_at hl 1 rfl) ?_
          refine kc_R [.int x4, .int x1] [] ⟨hx, hb, hml, hown, hts⟩ (cX_isBelow l dC dI h0 qa qr qt cI cJ av nk rv nr tv nt pk pn bl x4 x1 hAV hnk (kO_in hnk.2 c62) (vp_in_mono (kmay_in hnk.2 c8).1 hnk.2)) (cwV 2 hts gX0_pass_X0_isBelow rfl rfl rfl (by decide +kernel) ⟨(Nat.le_of_ble_eq_true rfl), (Nat.le_of_ble_eq_true rfl)⟩) hP hK (ci := 0) (q0 := 0) rfl rfl rfl rfl hl.1 rfl (Nat.le_of_ble_eq_true rfl) dX0_pass_69 ⟨Nat.zero_le _, Nat.zero_le _⟩ ?_
          refine lv_if_ne (tgt := 77) hx hb dX0_pass_72 (by decide) (fun c72 => ?_) (fun c72 => ?_)
          · refine lv_iload_n hx hb dX0_pass_77 rfl (lv_at hl 2 rfl) ?_
            refine kc_S [.int x2] [] ⟨hx, hb, hml, hown, hts⟩ (cX_isPlain l x2) (cwS 1 hts gX0_pass_X0_isPlain rfl rfl rfl (by decide +kernel) ⟨(Nat.le_of_ble_eq_true rfl), (Nat.le_of_ble_eq_true rfl)⟩) rfl hl.1 rfl (Nat.le_of_ble_eq_true rfl) dX0_pass_78 ⟨Nat.zero_le _, Nat.zero_le _⟩ ?_
            refine lv_if_eq (tgt := 97) hx hb dX0_pass_81 (by decide) (fun c81 => ?_) (fun c81 => ?_)
            · refine lv_aload_n hx hb dX0_pass_97 rfl (lv_at hl 0 rfl) ?_
              refine lv_iload_n hx hb dX0_pass_98 rfl (lv_at hl 2 rfl) ?_
              refine lv_iload hx hb dX0_pass_99 (lv_at hl 4 rfl) ?_
              refine lv_lload hx hb dX0_pass_101 (lv_at hl 5 rfl) ?_
              refine kc_W [.int x2, .int x4, .long x5] [] ⟨hx, hb, hml, hown, hts⟩ (cX_passAsReference l dC dI h0 qa qr qt cI cJ av nk rv nr tv nt pk pn bl x2 x4 x5 hAV hnk (vp_in_mono (kmay_in hnk.2 c8).2 hnk.2) (kO_in hnk.2 c62)) (cwV 3 hts gX0_pass_X0_passAsReference rfl rfl rfl (by decide +kernel) ⟨(Nat.le_of_ble_eq_true rfl), (Nat.le_of_ble_eq_true rfl)⟩) hP hK hD hS rfl (ci := 0) (q0 := 0) rfl rfl rfl rfl hl.1 rfl (Nat.le_of_ble_eq_true rfl) dX0_pass_103 ⟨Nat.zero_le _, Nat.zero_le _⟩ (fun H locs hP1 hS hk1 => ?_)
              have hP : va_P (dC, dI) vwCl (xW h0 qa qr qt cI cJ av nk rv nr tv nt ((fX_passAsReference pk pn bl x2 x4 x5).2.1) ((fX_passAsReference pk pn bl x2 x4 x5).2.2)) H := hP1
              have hD : va_D _ (xW h0 qa qr qt cI cJ av nk rv nr tv nt ((fX_passAsReference pk pn bl x2 x4 x5).2.1) ((fX_passAsReference pk pn bl x2 x4 x5).2.2)) := kD_same hD rfl
              exact W.iret hx hb hr (fun t ht hW => ⟨by rw [fX_pass, if_neg c8, if_pos c17, if_neg c44, if_neg c62, if_neg c72, if_pos c81] <;> rfl, by rw [ht, fX_pass, if_neg c8, if_pos c17, if_neg c44, if_neg c62, if_neg c72, if_pos c81]; exact hP, hS.F ht⟩) hS.2.2 dX0_pass_106
            · refine lv_aload_n hx hb dX0_pass_84 rfl (lv_at hl 0 rfl) ?_
              refine lv_iload_n hx hb dX0_pass_85 rfl (lv_at hl 2 rfl) ?_
              refine lv_iload_n hx hb dX0_pass_86 rfl (lv_at hl 3 rfl) ?_
              refine lv_iload hx hb dX0_pass_87 (lv_at hl 4 rfl) ?_
              refine lv_lload hx hb dX0_pass_89 (lv_at hl 5 rfl) ?_
              refine kc_W [.int x2, .int (bI x3), .int x4, .long x5] [] ⟨hx, hb, hml, hown, hts⟩ (cX_passAsPlain l dC dI h0 qa qr qt cI cJ av nk rv nr tv nt pk pn x2 x3 x4 x5) (cwV 4 hts gX0_pass_X0_passAsPlain rfl rfl rfl (by decide +kernel) ⟨(Nat.le_of_ble_eq_true rfl), (Nat.le_of_ble_eq_true rfl)⟩) hP hK hD hS rfl (ci := 0) (q0 := 0) rfl rfl rfl rfl hl.1 rfl (Nat.le_of_ble_eq_true rfl) dX0_pass_91 ⟨Nat.zero_le _, Nat.zero_le _⟩ (fun H locs hP1 hS hk1 => ?_)
              have hP : va_P (dC, dI) vwCl (xW h0 qa qr qt cI cJ av nk rv nr tv nt ((fX_passAsPlain pk pn x2 x3 x4 x5).2.1) ((fX_passAsPlain pk pn x2 x3 x4 x5).2.2)) H := hP1
              have hD : va_D _ (xW h0 qa qr qt cI cJ av nk rv nr tv nt ((fX_passAsPlain pk pn x2 x3 x4 x5).2.1) ((fX_passAsPlain pk pn x2 x3 x4 x5).2.2)) := kD_same hD rfl
              refine lv_goto (tgt := 106) hx hb dX0_pass_94 (by decide) ?_
              exact W.iret hx hb hr (fun t ht hW => ⟨by rw [fX_pass, if_neg c8, if_pos c17, if_neg c44, if_neg c62, if_neg c72, if_neg c81] <;> rfl, by rw [ht, fX_pass, if_neg c8, if_pos c17, if_neg c44, if_neg c62, if_neg c72, if_neg c81]; exact hP, hS.F ht⟩) hS.2.2 dX0_pass_106
          · refine lv_iconst (v := -1) hx hb dX0_pass_75 (by decide) ?_
            exact W.iret hx hb hr (fun t ht hW => ⟨by rw [fX_pass, if_neg c8, if_pos c17, if_neg c44, if_neg c62, if_pos c72] <;> rfl, by rw [ht, fX_pass, if_neg c8, if_pos c17, if_neg c44, if_neg c62, if_pos c72]; exact hP, hS.F ht⟩) hS.2.2 dX0_pass_76
      · refine lv_aload_n hx hb dX0_pass_47 rfl (lv_at hl 0 rfl) ?_
        refine lv_iload_n hx hb dX0_pass_48 rfl (lv_at hl 2 rfl) ?_
        refine lv_iload_n hx hb dX0_pass_49 rfl (lv_at hl 3 rfl) ?_
        refine kc_W [.int x2, .int (bI x3)] [] ⟨hx, hb, hml, hown, hts⟩ (cX_passNull l dC dI h0 qa qr qt cI cJ av nk rv nr tv nt pk pn x2 x3) (cwV 2 hts gX0_pass_X0_passNull rfl rfl rfl (by decide +kernel) ⟨(Nat.le_of_ble_eq_true rfl), (Nat.le_of_ble_eq_true rfl)⟩) hP hK hD hS rfl (ci := 0) (q0 := 0) rfl rfl rfl rfl hl.1 rfl (Nat.le_of_ble_eq_true rfl) dX0_pass_50 ⟨Nat.zero_le _, Nat.zero_le _⟩ (fun H locs hP1 hS hk1 => ?_)
        have hP : va_P (dC, dI) vwCl (xW h0 qa qr qt cI cJ av nk rv nr tv nt ((fX_passNull pk pn x2 x3).2.1) ((fX_passNull pk pn x2 x3).2.2)) H := hP1
        have hD : va_D _ (xW h0 qa qr qt cI cJ av nk rv nr tv nt ((fX_passNull pk pn x2 x3).2.1) ((fX_passNull pk pn x2 x3).2.2)) := kD_same hD rfl
        exact W.iret hx hb hr (fun t ht hW => ⟨by rw [fX_pass, if_neg c8, if_pos c17, if_pos c44] <;> rfl, by rw [ht, fX_pass, if_neg c8, if_pos c17, if_pos c44]; exact hP, hS.F ht⟩) hS.2.2 dX0_pass_53
    · refine lv_iload_n hx hb dX0_pass_20 rfl (lv_at hl 1 rfl) ?_
      refine lv_lload hx hb dX0_pass_21 (lv_at hl 5 rfl) ?_
      refine kc_S [.int x1, .long x5] [] ⟨hx, hb, hml, hown, hts⟩ (cX_fits l x1 x5) (cwS 2 hts gX0_pass_X0_fits rfl rfl rfl (by decide +kernel) ⟨(Nat.le_of_ble_eq_true rfl), (Nat.le_of_ble_eq_true rfl)⟩) rfl hl.1 rfl (Nat.le_of_ble_eq_true rfl) dX0_pass_23 ⟨Nat.zero_le _, Nat.zero_le _⟩ ?_
      refine lv_if_eq (tgt := 40) hx hb dX0_pass_26 (by decide) (fun c26 => ?_) (fun c26 => ?_)
      · refine lv_iconst (v := -1) hx hb dX0_pass_40 (by decide) ?_
        exact W.iret hx hb hr (fun t ht hW => ⟨by rw [fX_pass, if_neg c8, if_neg c17, if_pos c26] <;> rfl, by rw [ht, fX_pass, if_neg c8, if_neg c17, if_pos c26]; exact hP, hS.F ht⟩) hS.2.2 dX0_pass_41
      · refine lv_aload_n hx hb dX0_pass_29 rfl (lv_at hl 0 rfl) ?_
        refine lv_iload_n hx hb dX0_pass_30 rfl (lv_at hl 1 rfl) ?_
        refine lv_iload_n hx hb dX0_pass_31 rfl (lv_at hl 2 rfl) ?_
        refine lv_lload hx hb dX0_pass_32 (lv_at hl 5 rfl) ?_
        refine kc_W [.int x1, .int x2, .long x5] [] ⟨hx, hb, hml, hown, hts⟩ (cX_passPlain l dC dI h0 qa qr qt cI cJ av nk rv nr tv nt pk pn x1 x2 x5) (cwV 3 hts gX0_pass_X0_passPlain rfl rfl rfl (by decide +kernel) ⟨(Nat.le_of_ble_eq_true rfl), (Nat.le_of_ble_eq_true rfl)⟩) hP hK hD hS rfl (ci := 0) (q0 := 0) rfl rfl rfl rfl hl.1 rfl (Nat.le_of_ble_eq_true rfl) dX0_pass_34 ⟨Nat.zero_le _, Nat.zero_le _⟩ (fun H locs hP1 hS hk1 => ?_)
        have hP : va_P (dC, dI) vwCl (xW h0 qa qr qt cI cJ av nk rv nr tv nt ((fX_passPlain x1 x2 x5).2.1) ((fX_passPlain x1 x2 x5).2.2)) H := hP1
        have hD : va_D _ (xW h0 qa qr qt cI cJ av nk rv nr tv nt ((fX_passPlain x1 x2 x5).2.1) ((fX_passPlain x1 x2 x5).2.2)) := kD_same hD rfl
        refine lv_goto (tgt := 41) hx hb dX0_pass_37 (by decide) ?_
        exact W.iret hx hb hr (fun t ht hW => ⟨by rw [fX_pass, if_neg c8, if_neg c17, if_neg c26] <;> rfl, by rw [ht, fX_pass, if_neg c8, if_neg c17, if_neg c26]; exact hP, hS.F ht⟩) hS.2.2 dX0_pass_41
  · refine lv_iconst (v := -1) hx hb dX0_pass_11 (by decide) ?_
    exact W.iret hx hb hr (fun t ht hW => ⟨by rw [fX_pass, if_pos c8] <;> rfl, by rw [ht, fX_pass, if_pos c8]; exact hP, hS.F ht⟩) hS.2.2 dX0_pass_12
def fX_put (rv : Nat → Int32) (nr : Nat) (x1 : Int32) : Bool × (Nat → Int32) × Nat := if (nI nr) < (20 : Int32) then (true, (upd rv (nI nr).toNatClampNeg x1), (nr + 1)) else (false, rv, nr)
set_option maxHeartbeats 4000000 in
set_option maxRecDepth 100000 in
theorem cX_put (l : Launch) (dC : Nat → ClassId) (dI : Nat → Nat → Nat) (h0 qa qr qt : Nat) (cI cJ : ClassId) (av : Nat → Int32) (nk : Nat) (rv : Nat → Int32) (nr : Nat) (tv : Nat → Int64) (nt : Nat) (pk : Int32) (pn : Int64) (x1 : Int32) (hnr : nr ≤ 20) : Met l yX0_put wsX0_put ({ frames := 0, cells := 0, slots := 0, locals := 0 }) (kPw (dC, dI) vwCl [(cI, .int), (cJ, .long)] (xW h0 qa qr qt cI cJ av nk rv nr tv nt pk pn) [.ref h0, .int x1]) (kQw (dC, dI) vwCl (some (.int (bI ((fX_put rv nr x1).1)))) (xW h0 qa qr qt cI cJ av nk ((fX_put rv nr x1).2.1) ((fX_put rv nr x1).2.2) tv nt pk pn) [h0, qa, qr, qt]) 0 0 (fun q => q ∈ [h0, qa, qr, qt]) := by
  refine Met.ofW (cc := cX0_put) (maxL := 2) (ret := (some .boolean)) (by decide) rfl ?_
  intro p e s m args below meth c s₁ B hml hv
  obtain ⟨rfl, hP, hK, hD0⟩ := hv
  have hx := B.exec
  have hb := B.bytes
  have hr := B.returns
  have hts := atoms_spec (ws := wsX0_put) B.pre
  have hown : s.vm.findClass RX0 = some m.cls := findClass_of_methodNamed B.named
  have hlocks := B.notSynchronized
  have hin : ∀ w ∈ u_ws RX0 TX0 8, w ∈ wsX0_put := by decide +kernel
  have hD : va_D (fun q => q ∈ [h0, qa, qr, qt]) (xW h0 qa qr qt cI cJ av nk rv nr tv nt pk pn) := kD_self hD0 rfl
  have hS : va_S (fun q => q ∈ [h0, qa, qr, qt]) s.heap s.heap [] := va_S.rf
  have hl := lv_entry ([.ref h0, .int x1]) (n := 2) (Nat.le_of_ble_eq_true rfl)
  rw [lg_entry_eq]
  generalize (lg_sl ([.ref h0, .int x1]) ++ List.replicate (2 - (lg_sl ([.ref h0, .int x1])).length) Slot.unset).toArray = ls at hl ⊢
  have hl : lv_has ls 2 [(0, .ref h0), (1, .int x1)] := hl
  refine lv_aload_n hx hb dX0_put_0 rfl (lv_at hl 0 rfl) ?_
  refine va_get (D := (dC, dI)) (ci := 0) (v := .int (nI nr)) (C := RX0) (T := TX0) (N := 8) hx hb hts hin hown hK hP 0 rfl rfl 3 (by decide) (hts (.fieldLink RX0 24 "KindTable" "rowLength" "I") (by decide +kernel)) (fun _ h9 => h9) rfl dX0_put_1 ?_
  refine lv_bipush (v := 20) hx hb dX0_put_4 (by decide) ?_
  refine lv_icmp_lt (tgt := 11) hx hb dX0_put_6 (by decide) (fun c6 => ?_) (fun c6 => ?_)
  · refine lv_aload_n hx hb dX0_put_11 rfl (lv_at hl 0 rfl) ?_
    refine va_get (D := (dC, dI)) (ci := 0) (v := .ref qr) (C := RX0) (T := TX0) (N := 8) hx hb hts hin hown hK hP 0 rfl rfl 2 (by decide) (hts (.fieldLink RX0 21 "KindTable" "row" "[I") (by decide +kernel)) (fun _ h9 => h9) rfl dX0_put_12 ?_
    refine lv_aload_n hx hb dX0_put_15 rfl (lv_at hl 0 rfl) ?_
    refine va_get (D := (dC, dI)) (ci := 0) (v := .int (nI nr)) (C := RX0) (T := TX0) (N := 8) hx hb hts hin hown hK hP 0 rfl rfl 3 (by decide) (hts (.fieldLink RX0 24 "KindTable" "rowLength" "I") (by decide +kernel)) (fun _ h9 => h9) rfl dX0_put_16 ?_
    refine lv_iload_n hx hb dX0_put_19 rfl (lv_at hl 1 rfl) ?_
    refine va_iast hx hb hK hP hD hS 2 0 rfl rfl (kput_in hnr c6) dX0_put_20 (fun H locs hP hD hS => ?_)
    have hP : va_P (dC, dI) vwCl (xW h0 qa qr qt cI cJ av nk (upd rv (nI nr).toNatClampNeg x1) nr tv nt pk pn) H := hP
    have hD : va_D _ (xW h0 qa qr qt cI cJ av nk (upd rv (nI nr).toNatClampNeg x1) nr tv nt pk pn) := hD
    refine lv_aload_n hx hb dX0_put_21 rfl (lv_at hl 0 rfl) ?_
    refine lv_dup hx hb dX0_put_22 rfl ?_
    refine va_get (D := (dC, dI)) (ci := 0) (v := .int (nI nr)) (C := RX0) (T := TX0) (N := 8) hx hb hts hin hown hK hP 0 rfl rfl 3 (by decide) (hts (.fieldLink RX0 24 "KindTable" "rowLength" "I") (by decide +kernel)) (fun _ h9 => h9) rfl dX0_put_23 ?_
    refine lv_iconst (v := 1) hx hb dX0_put_26 (by decide) ?_
    refine lv_iadd hx hb dX0_put_27 ?_
    refine kv_topi (y := nI (nr + 1)) (nI_1 nr) ?_
    refine va_put (D := (dC, dI)) (ci := 0) (v := .int (nI (nr + 1))) (ty := .int) (C := RX0) (T := TX0) (N := 8) hx hb hts hin tyX0 tyX0_ok nmX0 hown hK hP hD hS 0 rfl rfl 3 (by decide) (hts (.fieldLink RX0 24 "KindTable" "rowLength" "I") (by decide +kernel)) (fun _ h9 => h9) rfl (by decide +kernel) rfl rfl (Nat.le_of_ble_eq_true rfl) dX0_put_28 (fun H locs hP hD hS => ?_)
    have hP : va_P (dC, dI) vwCl (xW h0 qa qr qt cI cJ av nk (upd rv (nI nr).toNatClampNeg x1) (nr + 1) tv nt pk pn) H := hP
    have hD : va_D _ (xW h0 qa qr qt cI cJ av nk (upd rv (nI nr).toNatClampNeg x1) (nr + 1) tv nt pk pn) := hD
    refine lv_iconst (v := 1) hx hb dX0_put_31 (by decide) ?_
    exact W.zret hx hb hr rfl (fun t ht hW => ⟨by rw [fX_put, if_pos c6] <;> rfl, by rw [ht, fX_put, if_pos c6]; exact hP, hS.F ht⟩) hS.2.2 dX0_put_32
  · refine lv_iconst (v := 0) hx hb dX0_put_9 (by decide) ?_
    exact W.zret hx hb hr rfl (fun t ht hW => ⟨by rw [fX_put, if_neg c6] <;> rfl, by rw [ht, fX_put, if_neg c6]; exact hP, hS.F ht⟩) hS.2.2 dX0_put_10
def fX_newClass (av : Nat → Int32) (nk : Nat) (x1 : Int32) : Int32 × (Nat → Int32) × Nat := if (32 : Int32) ≤ (nI nk) then ((-1 : Int32), av, nk) else if (bI (fX_mayBeParent nk x1)) = 0 then ((-1 : Int32), av, nk) else (nI nk, (upd av (nI nk).toNatClampNeg ((av x1.toNatClampNeg) ||| ((1 : Int32) <<< ((nI nk) &&& 31)))), (nk + 1))
set_option maxHeartbeats 4000000 in
set_option maxRecDepth 100000 in
theorem cX_newClass (l : Launch) (dC : Nat → ClassId) (dI : Nat → Nat → Nat) (h0 qa qr qt : Nat) (cI cJ : ClassId) (av : Nat → Int32) (nk : Nat) (rv : Nat → Int32) (nr : Nat) (tv : Nat → Int64) (nt : Nat) (pk : Int32) (pn : Int64) (x1 : Int32) (hnk : 20 ≤ nk ∧ nk ≤ 32) : Met l yX0_newClass wsX0_newClass ({ frames := 2, cells := 0, slots := 0, locals := 42 }) (kPw (dC, dI) vwCl [(cI, .int), (cJ, .long)] (xW h0 qa qr qt cI cJ av nk rv nr tv nt pk pn) [.ref h0, .int x1]) (kQw (dC, dI) vwCl (some (.int ((fX_newClass av nk x1).1))) (xW h0 qa qr qt cI cJ ((fX_newClass av nk x1).2.1) ((fX_newClass av nk x1).2.2) rv nr tv nt pk pn) [h0, qa, qr, qt]) 0 0 (fun q => q ∈ [h0, qa, qr, qt]) := by
  refine Met.ofW (cc := cX0_newClass) (maxL := 3) (ret := (some .int)) (by decide) rfl ?_
  intro p e s m args below meth c s₁ B hml hv
  obtain ⟨rfl, hP, hK, hD0⟩ := hv
  have hx := B.exec
  have hb := B.bytes
  have hr := B.returns
  have hts := atoms_spec (ws := wsX0_newClass) B.pre
  have hown : s.vm.findClass RX0 = some m.cls := findClass_of_methodNamed B.named
  have hlocks := B.notSynchronized
  have hin : ∀ w ∈ u_ws RX0 TX0 8, w ∈ wsX0_newClass := by decide +kernel
  have hD : va_D (fun q => q ∈ [h0, qa, qr, qt]) (xW h0 qa qr qt cI cJ av nk rv nr tv nt pk pn) := kD_self hD0 rfl
  have hS : va_S (fun q => q ∈ [h0, qa, qr, qt]) s.heap s.heap [] := va_S.rf
  have hl := lv_entry ([.ref h0, .int x1]) (n := 3) (Nat.le_of_ble_eq_true rfl)
  rw [lg_entry_eq]
  generalize (lg_sl ([.ref h0, .int x1]) ++ List.replicate (3 - (lg_sl ([.ref h0, .int x1])).length) Slot.unset).toArray = ls at hl ⊢
  have hl : lv_has ls 3 [(0, .ref h0), (1, .int x1)] := hl
  refine lv_aload_n hx hb dX0_newClass_0 rfl (lv_at hl 0 rfl) ?_
  refine va_get (D := (dC, dI)) (ci := 0) (v := .int (nI nk)) (C := RX0) (T := TX0) (N := 8) hx hb hts hin hown hK hP 0 rfl rfl 1 (by decide) (hts (.fieldLink RX0 17 "KindTable" "kindCount" "I") (by decide +kernel)) (fun _ h9 => h9) rfl dX0_newClass_1 ?_
  refine lv_bipush (v := 32) hx hb dX0_newClass_4 (by decide) ?_
  refine lv_icmp_ge (tgt := 17) hx hb dX0_newClass_6 (by decide) (fun c6 => ?_) (fun c6 => ?_)
  · refine lv_iconst (v := -1) hx hb dX0_newClass_17 (by decide) ?_
    exact W.iret hx hb hr (fun t ht hW => ⟨by rw [fX_newClass, if_pos c6] <;> rfl, by rw [ht, fX_newClass, if_pos c6]; exact hP, hS.F ht⟩) hS.2.2 dX0_newClass_18
  · refine lv_aload_n hx hb dX0_newClass_9 rfl (lv_at hl 0 rfl) ?_
    refine lv_iload_n hx hb dX0_newClass_10 rfl (lv_at hl 1 rfl) ?_
    refine kc_R [.int x1] [] ⟨hx, hb, hml, hown, hts⟩ (cX_mayBeParent l dC dI h0 qa qr qt cI cJ av nk rv nr tv nt pk pn x1) (cwV 1 hts gX0_newClass_X0_mayBeParent rfl rfl rfl (by decide +kernel) ⟨(Nat.le_of_ble_eq_true rfl), (Nat.le_of_ble_eq_true rfl)⟩) hP hK (ci := 0) (q0 := 0) rfl rfl rfl rfl hl.1 rfl (Nat.le_of_ble_eq_true rfl) dX0_newClass_11 ⟨Nat.zero_le _, Nat.zero_le _⟩ ?_
    refine lv_if_ne (tgt := 19) hx hb dX0_newClass_14 (by decide) (fun c14 => ?_) (fun c14 => ?_)
    · refine lv_aload_n hx hb dX0_newClass_19 rfl (lv_at hl 0 rfl) ?_
      refine va_get (D := (dC, dI)) (ci := 0) (v := .int (nI nk)) (C := RX0) (T := TX0) (N := 8) hx hb hts hin hown hK hP 0 rfl rfl 1 (by decide) (hts (.fieldLink RX0 17 "KindTable" "kindCount" "I") (by decide +kernel)) (fun _ h9 => h9) rfl dX0_newClass_20 ?_
      refine lv_istore_n (lv' := [(2, .int (nI nk)), (0, .ref h0), (1, .int x1)]) hx hb dX0_newClass_23 rfl hl (by decide) rfl (fun ls hl => ?_)
      refine lv_aload_n hx hb dX0_newClass_24 rfl (lv_at hl 1 rfl) ?_
      refine va_get (D := (dC, dI)) (ci := 0) (v := .ref qa) (C := RX0) (T := TX0) (N := 8) hx hb hts hin hown hK hP 0 rfl rfl 0 (by decide) (hts (.fieldLink RX0 9 "KindTable" "above" "[I") (by decide +kernel)) (fun _ h9 => h9) rfl dX0_newClass_25 ?_
      refine lv_iload_n hx hb dX0_newClass_28 rfl (lv_at hl 0 rfl) ?_
      refine lv_aload_n hx hb dX0_newClass_29 rfl (lv_at hl 1 rfl) ?_
      refine va_get (D := (dC, dI)) (ci := 0) (v := .ref qa) (C := RX0) (T := TX0) (N := 8) hx hb hts hin hown hK hP 0 rfl rfl 0 (by decide) (hts (.fieldLink RX0 9 "KindTable" "above" "[I") (by decide +kernel)) (fun _ h9 => h9) rfl dX0_newClass_30 ?_
      refine lv_iload_n hx hb dX0_newClass_33 rfl (lv_at hl 2 rfl) ?_
      refine va_iald hx hb hK hP 1 0 rfl rfl (vp_in_mono (kPar_in hnk.2 c14) hnk.2) dX0_newClass_34 ?_
      refine lv_iconst (v := 1) hx hb dX0_newClass_35 (by decide) ?_
      refine lv_iload_n hx hb dX0_newClass_36 rfl (lv_at hl 0 rfl) ?_
      refine lv_ishl hx hb dX0_newClass_37 ?_
      refine lv_ior hx hb dX0_newClass_38 ?_
      refine va_iast hx hb hK hP hD hS 1 0 rfl rfl (kNk_in hnk.2 c6) dX0_newClass_39 (fun H locs hP hD hS => ?_)
      have hP : va_P (dC, dI) vwCl (xW h0 qa qr qt cI cJ (upd av (nI nk).toNatClampNeg ((av x1.toNatClampNeg) ||| ((1 : Int32) <<< ((nI nk) &&& 31)))) nk rv nr tv nt pk pn) H := hP
      have hD : va_D _ (xW h0 qa qr qt cI cJ (upd av (nI nk).toNatClampNeg ((av x1.toNatClampNeg) ||| ((1 : Int32) <<< ((nI nk) &&& 31)))) nk rv nr tv nt pk pn) := hD
      refine lv_aload_n hx hb dX0_newClass_40 rfl (lv_at hl 1 rfl) ?_
      refine lv_dup hx hb dX0_newClass_41 rfl ?_
      refine va_get (D := (dC, dI)) (ci := 0) (v := .int (nI nk)) (C := RX0) (T := TX0) (N := 8) hx hb hts hin hown hK hP 0 rfl rfl 1 (by decide) (hts (.fieldLink RX0 17 "KindTable" "kindCount" "I") (by decide +kernel)) (fun _ h9 => h9) rfl dX0_newClass_42 ?_
      refine lv_iconst (v := 1) hx hb dX0_newClass_45 (by decide) ?_
      refine lv_iadd hx hb dX0_newClass_46 ?_
      refine kv_topi (y := nI (nk + 1)) (nI_1 nk) ?_
      refine va_put (D := (dC, dI)) (ci := 0) (v := .int (nI (nk + 1))) (ty := .int) (C := RX0) (T := TX0) (N := 8) hx hb hts hin tyX0 tyX0_ok nmX0 hown hK hP hD hS 0 rfl rfl 1 (by decide) (hts (.fieldLink RX0 17 "KindTable" "kindCount" "I") (by decide +kernel)) (fun _ h9 => h9) rfl (by decide +kernel) rfl rfl (Nat.le_of_ble_eq_true rfl) dX0_newClass_47 (fun H locs hP hD hS => ?_)
      have hP : va_P (dC, dI) vwCl (xW h0 qa qr qt cI cJ (upd av (nI nk).toNatClampNeg ((av x1.toNatClampNeg) ||| ((1 : Int32) <<< ((nI nk) &&& 31)))) (nk + 1) rv nr tv nt pk pn) H := hP
      have hD : va_D _ (xW h0 qa qr qt cI cJ (upd av (nI nk).toNatClampNeg ((av x1.toNatClampNeg) ||| ((1 : Int32) <<< ((nI nk) &&& 31)))) (nk + 1) rv nr tv nt pk pn) := hD
      refine lv_iload_n hx hb dX0_newClass_50 rfl (lv_at hl 0 rfl) ?_
      exact W.iret hx hb hr (fun t ht hW => ⟨by rw [fX_newClass, if_neg c6, if_neg c14] <;> rfl, by rw [ht, fX_newClass, if_neg c6, if_neg c14]; exact hP, hS.F ht⟩) hS.2.2 dX0_newClass_51
    · refine lv_iconst (v := -1) hx hb dX0_newClass_17 (by decide) ?_
      exact W.iret hx hb hr (fun t ht hW => ⟨by rw [fX_newClass, if_neg c6, if_pos c14] <;> rfl, by rw [ht, fX_newClass, if_neg c6, if_pos c14]; exact hP, hS.F ht⟩) hS.2.2 dX0_newClass_18
end
section
theorem lgc0 {x y : Int64} : lg_cmp x y = 0 ↔ x = y := by
  unfold lg_cmp
  by_cases h : x > y
  · rw [if_pos h]
    exact ⟨fun q => absurd q (by decide), fun q => absurd h (by rw [q]; exact Int64.lt_irrefl)⟩
  · rw [if_neg h]
    by_cases h2 : x = y
    · rw [if_pos h2]; exact ⟨fun _ => h2, fun _ => rfl⟩
    · rw [if_neg h2]; exact ⟨fun q => absurd q (by decide), fun q => absurd q h2⟩
theorem nbR_f {nt : Nat} (h : nt = 300) : nbR none nt = -1 := if_pos h
theorem nbN_f {nt : Nat} (h : nt = 300) : nbN none nt = nt := if_pos h
theorem nbV_f {α : Type} {nt : Nat} {o n : α} (h : nt = 300) : nbV none nt o n = o := if_pos h
theorem nbR_n {nt : Nat} (h : nt ≠ 300) : nbR none nt = nI nt := if_neg h
theorem nbN_n {nt : Nat} (h : nt ≠ 300) : nbN none nt = nt + 1 := if_neg h
theorem nbV_n {α : Type} {nt : Nat} {o n : α} (h : nt ≠ 300) : nbV none nt o n = n := if_neg h
theorem knt_full {nt : Nat} (hnt : nt ≤ 300) (c : ¬ nI nt < (300 : Int32)) : nt = 300 := by
  rcases Nat.lt_or_ge nt 300 with q | q
  · exact absurd (nI_lt (b := 300) q (by decide)) c
  · omega
theorem knt_room {nt : Nat} (hnt : nt ≤ 300) (c : nI nt < (300 : Int32)) : nt < 300 := (nI_ltI (b := 300) (by omega) (by decide)).mp c
/-- how many places: a number below 16 -/
theorem plo_of (x : Int64) : ∃ N, N < 16 ∧ fX_placesOf x = nI N := by
  obtain ⟨n, hn, rfl⟩ := wb_of x
  have e1 : (15 : Int64) = lN (2 ^ 4 - 1) := by decide
  have e2 : (5 : Int32) = nI 5 := rfl
  refine ⟨n / 2 ^ 5 % 2 ^ 4, Nat.mod_lt (n / 2 ^ 5) (by decide : 0 < 2 ^ 4), ?_⟩
  unfold fX_placesOf
  rw [e2, wb_shr hn (by decide), e1, wb_mask (Nat.lt_of_le_of_lt (Nat.div_le_self _ _) hn) (by decide), lN_i]
theorem plo_in (x : Int64) : (0 : Int32) ≤ fX_placesOf x ∧ fX_placesOf x ≤ 15 := by
  obtain ⟨N, hN, e⟩ := plo_of x
  rw [e]
  exact ⟨nI_pos' (by omega), nI_le (b := 15) (by omega) (by decide)⟩
theorem chg_in {x2 x3 : Int32} {y : Int64} (c44 : ¬ x3 < 0) (c50 : ¬ fX_placesOf y < x3) (c54 : ¬ x2 < 0) (c62 : x2 ≤ fX_placesOf y - x3) : ¬ x2 + x3 < 0 ∧ x2 + x3 ≤ fX_placesOf y := by
  obtain ⟨N, hN, e⟩ := plo_of y
  rw [e] at c50 c62 ⊢
  obtain ⟨a, ha, rfl⟩ := nI_of c54
  obtain ⟨b, hb, rfl⟩ := nI_of c44
  have h1 : b ≤ N := Nat.not_lt.mp (fun q => c50 (nI_lt q hb))
  rw [pk_sub h1] at c62
  have h2 : a ≤ N - b := (nI_leI ha (by omega)).mp c62
  rw [nI_add]
  exact ⟨nI_pos (by omega), nI_le (by omega) (by omega)⟩

def wpo (o : Int64) : Nat → Nat → Int64 → Int64
  | 0, _, a => a
  | n + 1, k, a => wpo o n (k + 1) (fX_withPlace a (fX_placeOf o (nI k)))
def fX_meet (nk : Nat) (bl : Nat → Nat → Bool) (x1 x2 : Int32) : Int32 := if (bI (fX_isKind nk x1)) = 0 then (-1 : Int32) else if (bI (fX_isKind nk x2)) = 0 then (-1 : Int32) else mtop (fun k => bl x1.toNatClampNeg k && bl x2.toNatClampNeg k) nk
def wpI (x0 x2 : Int64) (x4 x5 : Int32) : Int64 := wpo x2 (x5.toNatClampNeg - x4.toNatClampNeg) x4.toNatClampNeg x0
set_option maxHeartbeats 4000000 in
set_option maxRecDepth 100000 in
theorem cX_withPlacesOf (l : Launch) (x0 : Int64) (x2 : Int64) (x4 : Int32) (x5 : Int32) (h4 : ¬ x4 < 0) (h45 : x4 ≤ x5) : Met l yX0_withPlacesOf wsX0_withPlacesOf ({ frames := 2, cells := 0, slots := 0, locals := 43 }) (kPs [.long x0, .long x2, .int x4, .int x5]) (k2_QcV (.long (wpI x0 x2 x4 x5))) 0 0 kNo := by
  refine Met.ofW (cc := cX0_withPlacesOf) (maxL := 9) (ret := (some .long)) (by decide) rfl ?_
  intro p e s m args below meth c s₁ B hml hv
  obtain rfl : args = ([.long x0, .long x2, .int x4, .int x5] : List Value).toArray := hv
  have hx := B.exec
  have hb := B.bytes
  have hr := B.returns
  have hts := atoms_spec (ws := wsX0_withPlacesOf) B.pre
  have hown : s.vm.findClass RX0 = some m.cls := findClass_of_methodNamed B.named
  have hlocks := B.notSynchronized
  have hl := lv_entry ([.long x0, .long x2, .int x4, .int x5]) (n := 9) (Nat.le_of_ble_eq_true rfl)
  rw [lg_entry_eq]
  generalize (lg_sl ([.long x0, .long x2, .int x4, .int x5]) ++ List.replicate (9 - (lg_sl ([.long x0, .long x2, .int x4, .int x5])).length) Slot.unset).toArray = ls at hl ⊢
  have hl : lv_has ls 9 [(0, .long x0), (2, .long x2), (4, .int x4), (5, .int x5)] := hl
  obtain ⟨f, hf, rfl⟩ := nI_of h4
  obtain ⟨t, htt, rfl⟩ := nI_of (x := x5) (fun q => h4 (Int32.lt_of_le_of_lt h45 q))
  have hft : f ≤ t := (nI_leI hf htt).mp h45
  refine lv_lload_n hx hb dX0_withPlacesOf_0 rfl (lv_at hl 0 rfl) ?_
  refine lv_lstore (lv' := [(6, .long x0), (0, .long x0), (2, .long x2), (4, .int (nI f)), (5, .int (nI t))]) hx hb dX0_withPlacesOf_1 hl (by decide) rfl (fun ls hl => ?_)
  refine lv_iload hx hb dX0_withPlacesOf_3 (lv_at hl 3 rfl) ?_
  refine lv_istore (lv' := [(8, .int (nI f)), (6, .long x0), (0, .long x0), (2, .long x2), (4, .int (nI f)), (5, .int (nI t))]) hx hb dX0_withPlacesOf_5 hl (by decide) rfl (fun ls hl => ?_)
  suffices loop : ∀ (n k : Nat) (x6 : Int64), k + n = t → wpo x2 n k x6 = wpI x0 x2 (nI f) (nI t) → ∀ (ls : Array Slot), lv_has ls 9 [(8, .int (nI k)), (6, .long x6), (0, .long x0), (2, .long x2), (4, .int (nI f)), (5, .int (nI t))] → W p l e (headSpec wsX0_withPlacesOf ({ frames := 2, cells := 0, slots := 0, locals := 43 })).room s m ([.long x0, .long x2, .int (nI f), .int (nI t)] : List Value).toArray below meth c s.heap [] 0 0 (MQ below (k2_QcV (.long (wpI x0 x2 (nI f) (nI t)))) ([.long x0, .long x2, .int (nI f), .int (nI t)] : List Value).toArray s 0 0 kNo) (F0 m 7 ls []) by
    exact loop (t - f) f x0 (by omega) (by rw [wpI, nI_clamp hf, nI_clamp htt]) ls (lv_sub hl [0, 1, 2, 3, 4, 5] rfl)
  intro n
  induction n with
  | zero =>
    intro k x6 hk he ls hl
    refine lv_iload hx hb dX0_withPlacesOf_7 (lv_at hl 0 rfl) ?_
    refine lv_iload hx hb dX0_withPlacesOf_9 (lv_at hl 5 rfl) ?_
    refine lv_icmp_ge (tgt := 33) hx hb dX0_withPlacesOf_11 (by decide) (fun c11 => ?_) (fun c11 => ?_)
    · refine lv_lload hx hb dX0_withPlacesOf_33 (lv_at hl 1 rfl) ?_
      exact W.lret hx hb hr (fun t ht hW => ⟨by rw [← he] <;> rfl, ht⟩) (fun _ h => by cases h) dX0_withPlacesOf_35
    · exact absurd (nI_le (by omega) (by omega)) c11
  | succ n ih =>
    intro k x6 hk he ls hl
    refine lv_iload hx hb dX0_withPlacesOf_7 (lv_at hl 0 rfl) ?_
    refine lv_iload hx hb dX0_withPlacesOf_9 (lv_at hl 5 rfl) ?_
    refine lv_icmp_ge (tgt := 33) hx hb dX0_withPlacesOf_11 (by decide) (fun c11 => ?_) (fun c11 => ?_)
    · exact absurd ((nI_leI (by omega) (by omega)).mp c11) (by omega)
    · refine lv_lload hx hb dX0_withPlacesOf_14 (lv_at hl 1 rfl) ?_
      refine lv_lload_n hx hb dX0_withPlacesOf_16 rfl (lv_at hl 3 rfl) ?_
      refine lv_iload hx hb dX0_withPlacesOf_17 (lv_at hl 0 rfl) ?_
      refine kc_S [.long x2, .int (nI k)] [.long x6] ⟨hx, hb, hml, hown, hts⟩ (cX_placeOf l x2 (nI k)) (cwS 2 hts gX0_withPlacesOf_X0_placeOf rfl rfl rfl (by decide +kernel) ⟨(Nat.le_of_ble_eq_true rfl), (Nat.le_of_ble_eq_true rfl)⟩) rfl hl.1 rfl (Nat.le_of_ble_eq_true rfl) dX0_withPlacesOf_19 ⟨Nat.zero_le _, Nat.zero_le _⟩ ?_
      refine kc_S [.long x6, .int (fX_placeOf x2 (nI k))] [] ⟨hx, hb, hml, hown, hts⟩ (cX_withPlace l x6 (fX_placeOf x2 (nI k))) (cwS 2 hts gX0_withPlacesOf_X0_withPlace rfl rfl rfl (by decide +kernel) ⟨(Nat.le_of_ble_eq_true rfl), (Nat.le_of_ble_eq_true rfl)⟩) rfl hl.1 rfl (Nat.le_of_ble_eq_true rfl) dX0_withPlacesOf_22 ⟨Nat.zero_le _, Nat.zero_le _⟩ ?_
      refine lv_lstore (lv' := [(6, .long (fX_withPlace x6 (fX_placeOf x2 (nI k)))), (8, .int (nI k)), (0, .long x0), (2, .long x2), (4, .int (nI f)), (5, .int (nI t))]) hx hb dX0_withPlacesOf_25 hl (by decide) rfl (fun ls hl => ?_)
      refine lv_iinc (v := nI (k + 1)) (lv' := [(8, .int (nI (k + 1))), (6, .long (fX_withPlace x6 (fX_placeOf x2 (nI k)))), (0, .long x0), (2, .long x2), (4, .int (nI f)), (5, .int (nI t))]) hx hb dX0_withPlacesOf_27 hl (k := 1) rfl (nI_1 k) (by decide) rfl (fun ls hl => ?_)
      refine lv_goto (tgt := 7) hx hb dX0_withPlacesOf_30 (by decide) ?_
      exact ih (k + 1) _ (by omega) he ls (lv_sub hl [0, 1, 2, 3, 4, 5] rfl)
set_option maxHeartbeats 4000000 in
set_option maxRecDepth 100000 in
theorem cX_meet (l : Launch) (dC : Nat → ClassId) (dI : Nat → Nat → Nat) (h0 qa qr qt : Nat) (cI cJ : ClassId) (av : Nat → Int32) (nk : Nat) (rv : Nat → Int32) (nr : Nat) (tv : Nat → Int64) (nt : Nat) (pk : Int32) (pn : Int64) (bl : Nat → Nat → Bool) (x1 : Int32) (x2 : Int32) (hAV : kAV bl av nk) (hnk : 20 ≤ nk ∧ nk ≤ 32) : Met l yX0_meet wsX0_meet ({ frames := 1, cells := 0, slots := 0, locals := 21 }) (kPr (dC, dI) vwCl [(cI, .int), (cJ, .long)] (xW h0 qa qr qt cI cJ av nk rv nr tv nt pk pn) [.ref h0, .int x1, .int x2]) (k2_QcV (.int (fX_meet nk bl x1 x2))) 0 0 kNo := by
  refine Met.ofW (cc := cX0_meet) (maxL := 5) (ret := (some .int)) (by decide) rfl ?_
  intro p e s m args below meth c s₁ B hml hv
  obtain ⟨rfl, hP, hK⟩ := hv
  have hx := B.exec
  have hb := B.bytes
  have hr := B.returns
  have hts := atoms_spec (ws := wsX0_meet) B.pre
  have hown : s.vm.findClass RX0 = some m.cls := findClass_of_methodNamed B.named
  have hlocks := B.notSynchronized
  have hin : ∀ w ∈ u_ws RX0 TX0 8, w ∈ wsX0_meet := by decide +kernel
  have hl := lv_entry ([.ref h0, .int x1, .int x2]) (n := 5) (Nat.le_of_ble_eq_true rfl)
  rw [lg_entry_eq]
  generalize (lg_sl ([.ref h0, .int x1, .int x2]) ++ List.replicate (5 - (lg_sl ([.ref h0, .int x1, .int x2])).length) Slot.unset).toArray = ls at hl ⊢
  have hl : lv_has ls 5 [(0, .ref h0), (1, .int x1), (2, .int x2)] := hl
  refine lv_aload_n hx hb dX0_meet_0 rfl (lv_at hl 0 rfl) ?_
  refine lv_iload_n hx hb dX0_meet_1 rfl (lv_at hl 1 rfl) ?_
  refine kc_R [.int x1] [] ⟨hx, hb, hml, hown, hts⟩ (cX_isKind l dC dI h0 qa qr qt cI cJ av nk rv nr tv nt pk pn x1) (cwV 1 hts gX0_meet_X0_isKind rfl rfl rfl (by decide +kernel) ⟨(Nat.le_of_ble_eq_true rfl), (Nat.le_of_ble_eq_true rfl)⟩) hP hK (ci := 0) (q0 := 0) rfl rfl rfl rfl hl.1 rfl (Nat.le_of_ble_eq_true rfl) dX0_meet_2 ⟨Nat.zero_le _, Nat.zero_le _⟩ ?_
  refine lv_if_eq (tgt := 16) hx hb dX0_meet_5 (by decide) (fun c5 => ?_) (fun c5 => ?_)
  · refine lv_iconst (v := -1) hx hb dX0_meet_16 (by decide) ?_
    exact W.iret hx hb hr (fun t ht hW => ⟨by rw [fX_meet, if_pos c5] <;> rfl, ht⟩) (fun _ h => by cases h) dX0_meet_17
  · refine lv_aload_n hx hb dX0_meet_8 rfl (lv_at hl 0 rfl) ?_
    refine lv_iload_n hx hb dX0_meet_9 rfl (lv_at hl 2 rfl) ?_
    refine kc_R [.int x2] [] ⟨hx, hb, hml, hown, hts⟩ (cX_isKind l dC dI h0 qa qr qt cI cJ av nk rv nr tv nt pk pn x2) (cwV 1 hts gX0_meet_X0_isKind rfl rfl rfl (by decide +kernel) ⟨(Nat.le_of_ble_eq_true rfl), (Nat.le_of_ble_eq_true rfl)⟩) hP hK (ci := 0) (q0 := 0) rfl rfl rfl rfl hl.1 rfl (Nat.le_of_ble_eq_true rfl) dX0_meet_10 ⟨Nat.zero_le _, Nat.zero_le _⟩ ?_
    refine lv_if_ne (tgt := 18) hx hb dX0_meet_13 (by decide) (fun c13 => ?_) (fun c13 => ?_)
    · refine lv_aload_n hx hb dX0_meet_18 rfl (lv_at hl 0 rfl) ?_
      refine va_get (D := (dC, dI)) (ci := 0) (v := .ref qa) (C := RX0) (T := TX0) (N := 8) hx hb hts hin hown hK hP 0 rfl rfl 0 (by decide) (hts (.fieldLink RX0 9 "KindTable" "above" "[I") (by decide +kernel)) (fun _ h9 => h9) rfl dX0_meet_19 ?_
      refine lv_iload_n hx hb dX0_meet_22 rfl (lv_at hl 1 rfl) ?_
      refine va_iald hx hb hK hP 1 0 rfl rfl (vp_in_mono (kK_in hnk.2 c5) hnk.2) dX0_meet_23 ?_
      refine lv_aload_n hx hb dX0_meet_24 rfl (lv_at hl 0 rfl) ?_
      refine va_get (D := (dC, dI)) (ci := 0) (v := .ref qa) (C := RX0) (T := TX0) (N := 8) hx hb hts hin hown hK hP 0 rfl rfl 0 (by decide) (hts (.fieldLink RX0 9 "KindTable" "above" "[I") (by decide +kernel)) (fun _ h9 => h9) rfl dX0_meet_25 ?_
      refine lv_iload_n hx hb dX0_meet_28 rfl (lv_at hl 2 rfl) ?_
      refine va_iald hx hb hK hP 1 0 rfl rfl (vp_in_mono (kK_in hnk.2 c13) hnk.2) dX0_meet_29 ?_
      refine lv_iand hx hb dX0_meet_30 ?_
      refine lv_istore_n (lv' := [(3, .int ((av x1.toNatClampNeg) &&& (av x2.toNatClampNeg))), (0, .ref h0), (1, .int x1), (2, .int x2)]) hx hb dX0_meet_31 rfl hl (by decide) rfl (fun ls hl => ?_)
      refine lv_aload_n hx hb dX0_meet_32 rfl (lv_at hl 1 rfl) ?_
      refine va_get (D := (dC, dI)) (ci := 0) (v := .int (nI nk)) (C := RX0) (T := TX0) (N := 8) hx hb hts hin hown hK hP 0 rfl rfl 1 (by decide) (hts (.fieldLink RX0 17 "KindTable" "kindCount" "I") (by decide +kernel)) (fun _ h9 => h9) rfl dX0_meet_33 ?_
      refine lv_iconst (v := 1) hx hb dX0_meet_36 (by decide) ?_
      refine lv_isub hx hb dX0_meet_37 ?_
      refine lv_istore (lv' := [(4, .int ((nI nk) - (1 : Int32))), (3, .int ((av x1.toNatClampNeg) &&& (av x2.toNatClampNeg))), (0, .ref h0), (1, .int x1), (2, .int x2)]) hx hb dX0_meet_38 hl (by decide) rfl (fun ls hl => ?_)
      suffices loop : ∀ (q : Nat) (x4 : Int32), q ≤ nk → x4 = nI q - 1 → mtop (fun k => bl x1.toNatClampNeg k && bl x2.toNatClampNeg k) q = mtop (fun k => bl x1.toNatClampNeg k && bl x2.toNatClampNeg k) nk → ∀ (ls : Array Slot), lv_has ls 5 [(4, .int x4), (3, .int ((av x1.toNatClampNeg) &&& (av x2.toNatClampNeg))), (0, .ref h0), (1, .int x1), (2, .int x2)] → W p l e (headSpec wsX0_meet ({ frames := 1, cells := 0, slots := 0, locals := 21 })).room s m ([.ref h0, .int x1, .int x2] : List Value).toArray below meth c s.heap [] 0 0 (MQ below (k2_QcV (.int (fX_meet nk bl x1 x2))) ([.ref h0, .int x1, .int x2] : List Value).toArray s 0 0 kNo) (F0 m 40 ls []) by
        exact loop nk _ (Nat.le_refl nk) rfl rfl ls (lv_sub hl [0, 1, 2, 3, 4] rfl)
      intro q
      induction q with
      | zero =>
        intro x4 hq ex hm ls hl
        refine lv_iload hx hb dX0_meet_40 (lv_at hl 0 rfl) ?_
        refine lv_if_lt (tgt := 63) hx hb dX0_meet_42 (by decide) (fun c42 => ?_) (fun c42 => ?_)
        · refine lv_iconst (v := -1) hx hb dX0_meet_63 (by decide) ?_
          exact W.iret hx hb hr (fun t ht hW => ⟨by rw [fX_meet, if_neg c5, if_neg c13, ← hm] <;> rfl, ht⟩) (fun _ h => by cases h) dX0_meet_64
        · exact absurd (by rw [ex]; decide) c42
      | succ q ih =>
        intro x4 hq ex hm ls hl
        rw [nI_pred] at ex
        subst ex
        refine lv_iload hx hb dX0_meet_40 (lv_at hl 0 rfl) ?_
        refine lv_if_lt (tgt := 63) hx hb dX0_meet_42 (by decide) (fun c42 => ?_) (fun c42 => ?_)
        · exact absurd c42 (nI_pos (by omega))
        · refine lv_iload_n hx hb dX0_meet_45 rfl (lv_at hl 1 rfl) ?_
          refine lv_iload hx hb dX0_meet_46 (lv_at hl 0 rfl) ?_
          refine lv_iushr hx hb dX0_meet_48 rfl ?_
          refine lv_iconst (v := 1) hx hb dX0_meet_49 (by decide) ?_
          refine lv_iand hx hb dX0_meet_50 ?_
          refine lv_if_eq (tgt := 57) hx hb dX0_meet_51 (by decide) (fun c51 => ?_) (fun c51 => ?_)
          · refine lv_iinc (v := nI q - 1) (lv' := [(4, .int (nI q - 1)), (3, .int ((av x1.toNatClampNeg) &&& (av x2.toNatClampNeg))), (0, .ref h0), (1, .int x1), (2, .int x2)]) hx hb dX0_meet_57 hl (k := 0) rfl (by rw [Int32.sub_eq_add_neg]; rfl) (by decide) rfl (fun ls hl => ?_)
            refine lv_goto (tgt := 40) hx hb dX0_meet_60 (by decide) ?_
            exact ih _ (by omega) rfl (by rw [← hm, mtop, if_neg (by rw [(meet_bit hAV hnk.2 (kK_in hnk.2 c5) (kK_in hnk.2 c13) (by omega)).mp c51]; decide)]) ls (lv_sub hl [0, 1, 2, 3, 4] rfl)
          · refine lv_iload hx hb dX0_meet_54 (lv_at hl 0 rfl) ?_
            exact W.iret hx hb hr (fun t ht hW => ⟨by rw [fX_meet, if_neg c5, if_neg c13, ← hm, mtop, if_pos (by cases hz : (bl x1.toNatClampNeg q && bl x2.toNatClampNeg q); exact absurd ((meet_bit hAV hnk.2 (kK_in hnk.2 c5) (kK_in hnk.2 c13) (by omega)).mpr hz) c51; rfl)], ht⟩) (fun _ h => by cases h) dX0_meet_56
    · refine lv_iconst (v := -1) hx hb dX0_meet_16 (by decide) ?_
      exact W.iret hx hb hr (fun t ht hW => ⟨by rw [fX_meet, if_neg c5, if_pos c13] <;> rfl, ht⟩) (fun _ h => by cases h) dX0_meet_17
end
section
set_option maxHeartbeats 4000000 in
set_option maxRecDepth 100000 in
theorem cX_numberOf (l : Launch) (dC : Nat → ClassId) (dI : Nat → Nat → Nat) (h0 qa qr qt : Nat) (cI cJ : ClassId) (av : Nat → Int32) (nk : Nat) (rv : Nat → Int32) (nr : Nat) (tv : Nat → Int64) (nt : Nat) (pk : Int32) (pn : Int64) (x1 : Int64) (hnt : nt ≤ 300) : Met l yX0_numberOf wsX0_numberOf ({ frames := 0, cells := 0, slots := 0, locals := 0 }) (kPw (dC, dI) vwCl [(cI, .int), (cJ, .long)] (xW h0 qa qr qt cI cJ av nk rv nr tv nt pk pn) [.ref h0, .long x1]) (kQw (dC, dI) vwCl (some (.int (nbR (fnd (fun i => decide (tv i = x1)) nt 0) nt))) (xW h0 qa qr qt cI cJ av nk rv nr (nbV (fnd (fun i => decide (tv i = x1)) nt 0) nt tv (vp_updL tv nt x1)) (nbN (fnd (fun i => decide (tv i = x1)) nt 0) nt) pk pn) [h0, qa, qr, qt]) 0 0 (fun q => q ∈ [h0, qa, qr, qt]) := by
  refine Met.ofW (cc := cX0_numberOf) (maxL := 4) (ret := (some .int)) (by decide) rfl ?_
  intro p e s m args below meth c s₁ B hml hv
  obtain ⟨rfl, hP, hK, hD0⟩ := hv
  have hx := B.exec
  have hb := B.bytes
  have hr := B.returns
  have hts := atoms_spec (ws := wsX0_numberOf) B.pre
  have hown : s.vm.findClass RX0 = some m.cls := findClass_of_methodNamed B.named
  have hlocks := B.notSynchronized
  have hin : ∀ w ∈ u_ws RX0 TX0 8, w ∈ wsX0_numberOf := by decide +kernel
  have hD : va_D (fun q => q ∈ [h0, qa, qr, qt]) (xW h0 qa qr qt cI cJ av nk rv nr tv nt pk pn) := kD_self hD0 rfl
  have hS : va_S (fun q => q ∈ [h0, qa, qr, qt]) s.heap s.heap [] := va_S.rf
  have hl := lv_entry ([.ref h0, .long x1]) (n := 4) (Nat.le_of_ble_eq_true rfl)
  rw [lg_entry_eq]
  generalize (lg_sl ([.ref h0, .long x1]) ++ List.replicate (4 - (lg_sl ([.ref h0, .long x1])).length) Slot.unset).toArray = ls at hl ⊢
  have hl : lv_has ls 4 [(0, .ref h0), (1, .long x1)] := hl
  refine lv_iconst (v := 0) hx hb dX0_numberOf_0 (by decide) ?_
  refine lv_istore_n (lv' := [(3, .int 0), (0, .ref h0), (1, .long x1)]) hx hb dX0_numberOf_1 rfl hl (by decide) rfl (fun ls hl => ?_)
  suffices loop : ∀ (n k : Nat), k + n = nt → fnd (fun i => decide (tv i = x1)) n k = (fnd (fun i => decide (tv i = x1)) nt 0) → ∀ (ls : Array Slot), lv_has ls 4 [(3, .int (nI k)), (0, .ref h0), (1, .long x1)] → W p l e (headSpec wsX0_numberOf ({ frames := 0, cells := 0, slots := 0, locals := 0 })).room s m ([.ref h0, .long x1] : List Value).toArray below meth c s.heap [] 0 0 (MQ below (kQw (dC, dI) vwCl (some (.int (nbR (fnd (fun i => decide (tv i = x1)) nt 0) nt))) (xW h0 qa qr qt cI cJ av nk rv nr (nbV (fnd (fun i => decide (tv i = x1)) nt 0) nt tv (vp_updL tv nt x1)) (nbN (fnd (fun i => decide (tv i = x1)) nt 0) nt) pk pn) [h0, qa, qr, qt]) ([.ref h0, .long x1] : List Value).toArray s 0 0 (fun q => q ∈ [h0, qa, qr, qt])) (F0 m 2 ls []) by
    exact loop nt 0 (by omega) rfl ls (lv_sub hl [0, 1, 2] rfl)
  intro n
  induction n with
  | zero =>
    intro k hk he ls hl
    have ho : (fnd (fun i => decide (tv i = x1)) nt 0) = none := he.symm
    refine lv_iload_n hx hb dX0_numberOf_2 rfl (lv_at hl 0 rfl) ?_
    refine lv_aload_n hx hb dX0_numberOf_3 rfl (lv_at hl 1 rfl) ?_
    refine va_get (D := (dC, dI)) (ci := 0) (v := .int (nI nt)) (C := RX0) (T := TX0) (N := 8) hx hb hts hin hown hK hP 0 rfl rfl 5 (by decide) (hts (.fieldLink RX0 31 "KindTable" "typeCount" "I") (by decide +kernel)) (fun _ h9 => h9) rfl dX0_numberOf_4 ?_
    refine lv_icmp_ge (tgt := 29) hx hb dX0_numberOf_7 (by decide) (fun c7 => ?_) (fun c7 => ?_)
    · refine lv_aload_n hx hb dX0_numberOf_29 rfl (lv_at hl 1 rfl) ?_
      refine va_get (D := (dC, dI)) (ci := 0) (v := .int (nI nt)) (C := RX0) (T := TX0) (N := 8) hx hb hts hin hown hK hP 0 rfl rfl 5 (by decide) (hts (.fieldLink RX0 31 "KindTable" "typeCount" "I") (by decide +kernel)) (fun _ h9 => h9) rfl dX0_numberOf_30 ?_
      refine lv_sipush (v := 300) hx hb dX0_numberOf_33 (by decide) ?_
      refine lv_icmp_lt (tgt := 41) hx hb dX0_numberOf_36 (by decide) (fun c36 => ?_) (fun c36 => ?_)
      · refine lv_aload_n hx hb dX0_numberOf_41 rfl (lv_at hl 1 rfl) ?_
        refine va_get (D := (dC, dI)) (ci := 0) (v := .ref qt) (C := RX0) (T := TX0) (N := 8) hx hb hts hin hown hK hP 0 rfl rfl 4 (by decide) (hts (.fieldLink RX0 27 "KindTable" "types" "[J") (by decide +kernel)) (fun _ h9 => h9) rfl dX0_numberOf_42 ?_
        refine lv_aload_n hx hb dX0_numberOf_45 rfl (lv_at hl 1 rfl) ?_
        refine va_get (D := (dC, dI)) (ci := 0) (v := .int (nI nt)) (C := RX0) (T := TX0) (N := 8) hx hb hts hin hown hK hP 0 rfl rfl 5 (by decide) (hts (.fieldLink RX0 31 "KindTable" "typeCount" "I") (by decide +kernel)) (fun _ h9 => h9) rfl dX0_numberOf_46 ?_
        refine lv_lload_n hx hb dX0_numberOf_49 rfl (lv_at hl 2 rfl) ?_
        refine va_last hx hb hK hP hD hS 3 1 rfl rfl (vp_in_nI (knt_room hnt c36) (by decide)) dX0_numberOf_50 (fun H locs hP hD hS => ?_)
        have e_as : vp_updL tv (nI nt).toNatClampNeg x1 = vp_updL tv nt x1 := by rw [nI_clamp (by omega)]
        have hP : va_P (dC, dI) vwCl (xW h0 qa qr qt cI cJ av nk rv nr (vp_updL tv nt x1) nt pk pn) H := by rw [← e_as]; exact hP
        have hD : va_D (fun q => q ∈ [h0, qa, qr, qt]) (xW h0 qa qr qt cI cJ av nk rv nr (vp_updL tv nt x1) nt pk pn) := by rw [← e_as]; exact hD
        refine lv_aload_n hx hb dX0_numberOf_51 rfl (lv_at hl 1 rfl) ?_
        refine lv_dup hx hb dX0_numberOf_52 rfl ?_
        refine va_get (D := (dC, dI)) (ci := 0) (v := .int (nI nt)) (C := RX0) (T := TX0) (N := 8) hx hb hts hin hown hK hP 0 rfl rfl 5 (by decide) (hts (.fieldLink RX0 31 "KindTable" "typeCount" "I") (by decide +kernel)) (fun _ h9 => h9) rfl dX0_numberOf_53 ?_
        refine lv_iconst (v := 1) hx hb dX0_numberOf_56 (by decide) ?_
        refine lv_iadd hx hb dX0_numberOf_57 ?_
        refine kv_topi (y := nI (nt + 1)) (nI_1 nt) ?_
        refine va_put (D := (dC, dI)) (ci := 0) (v := .int (nI (nt + 1))) (ty := .int) (C := RX0) (T := TX0) (N := 8) hx hb hts hin tyX0 tyX0_ok nmX0 hown hK hP hD hS 0 rfl rfl 5 (by decide) (hts (.fieldLink RX0 31 "KindTable" "typeCount" "I") (by decide +kernel)) (fun _ h9 => h9) rfl (by decide +kernel) rfl rfl (Nat.le_of_ble_eq_true rfl) dX0_numberOf_58 (fun H locs hP hD hS => ?_)
        have hP : va_P (dC, dI) vwCl (xW h0 qa qr qt cI cJ av nk rv nr (vp_updL tv nt x1) (nt + 1) pk pn) H := hP
        have hD : va_D _ (xW h0 qa qr qt cI cJ av nk rv nr (vp_updL tv nt x1) (nt + 1) pk pn) := hD
        refine lv_aload_n hx hb dX0_numberOf_61 rfl (lv_at hl 1 rfl) ?_
        refine va_get (D := (dC, dI)) (ci := 0) (v := .int (nI (nt + 1))) (C := RX0) (T := TX0) (N := 8) hx hb hts hin hown hK hP 0 rfl rfl 5 (by decide) (hts (.fieldLink RX0 31 "KindTable" "typeCount" "I") (by decide +kernel)) (fun _ h9 => h9) rfl dX0_numberOf_62 ?_
        refine lv_iconst (v := 1) hx hb dX0_numberOf_65 (by decide) ?_
        refine lv_isub hx hb dX0_numberOf_66 ?_
        refine kv_topi (y := nI nt) (nI_pred nt) ?_
        exact W.iret hx hb hr (fun t ht hW => ⟨by rw [ho, nbR_n (Nat.ne_of_lt (knt_room hnt c36))] <;> rfl, by rw [ht, ho, nbN_n (Nat.ne_of_lt (knt_room hnt c36)), nbV_n (Nat.ne_of_lt (knt_room hnt c36))]; exact hP, hS.F ht⟩) hS.2.2 dX0_numberOf_67
      · refine lv_iconst (v := -1) hx hb dX0_numberOf_39 (by decide) ?_
        exact W.iret hx hb hr (fun t ht hW => ⟨by rw [ho, nbR_f (knt_full hnt c36)] <;> rfl, by rw [ht, ho, nbN_f (knt_full hnt c36), nbV_f (knt_full hnt c36)]; exact hP, hS.F ht⟩) hS.2.2 dX0_numberOf_40
    · exact absurd (nI_le (by omega) (by omega)) c7
  | succ n ih =>
    intro k hk he ls hl
    refine lv_iload_n hx hb dX0_numberOf_2 rfl (lv_at hl 0 rfl) ?_
    refine lv_aload_n hx hb dX0_numberOf_3 rfl (lv_at hl 1 rfl) ?_
    refine va_get (D := (dC, dI)) (ci := 0) (v := .int (nI nt)) (C := RX0) (T := TX0) (N := 8) hx hb hts hin hown hK hP 0 rfl rfl 5 (by decide) (hts (.fieldLink RX0 31 "KindTable" "typeCount" "I") (by decide +kernel)) (fun _ h9 => h9) rfl dX0_numberOf_4 ?_
    refine lv_icmp_ge (tgt := 29) hx hb dX0_numberOf_7 (by decide) (fun c7 => ?_) (fun c7 => ?_)
    · exact absurd ((nI_leI (by omega) (by omega)).mp c7) (by omega)
    · refine lv_aload_n hx hb dX0_numberOf_10 rfl (lv_at hl 1 rfl) ?_
      refine va_get (D := (dC, dI)) (ci := 0) (v := .ref qt) (C := RX0) (T := TX0) (N := 8) hx hb hts hin hown hK hP 0 rfl rfl 4 (by decide) (hts (.fieldLink RX0 27 "KindTable" "types" "[J") (by decide +kernel)) (fun _ h9 => h9) rfl dX0_numberOf_11 ?_
      refine lv_iload_n hx hb dX0_numberOf_14 rfl (lv_at hl 0 rfl) ?_
      refine va_lald hx hb hK hP 3 1 rfl rfl (vp_in_nI (by omega) (by decide)) dX0_numberOf_15 ?_
      refine kv_topl (y := tv k) (by rw [nI_clamp (by omega)]) ?_
      refine lv_lload_n hx hb dX0_numberOf_16 rfl (lv_at hl 2 rfl) ?_
      refine W.lcmp hx hb dX0_numberOf_17 ?_
      refine lv_if_ne (tgt := 23) hx hb dX0_numberOf_18 (by decide) (fun c18 => ?_) (fun c18 => ?_)
      · refine lv_iinc (v := nI (k + 1)) (lv' := [(3, .int (nI (k + 1))), (0, .ref h0), (1, .long x1)]) hx hb dX0_numberOf_23 hl (k := 0) rfl (nI_1 k) (by decide) rfl (fun ls hl => ?_)
        refine lv_goto (tgt := 2) hx hb dX0_numberOf_26 (by decide) ?_
        exact ih (k + 1) (by omega) (by rw [← he, fnd, if_neg (by rw [decide_eq_true_eq]; exact fun q => c18 (lgc0.mpr q))]) ls (lv_sub hl [0, 1, 2] rfl)
      · refine lv_iload_n hx hb dX0_numberOf_21 rfl (lv_at hl 0 rfl) ?_
        exact W.iret hx hb hr (fun t ht hW => ⟨by rw [← he, fnd, if_pos (decide_eq_true (lgc0.mp c18))] <;> rfl, by rw [ht, ← he, fnd, if_pos (decide_eq_true (lgc0.mp c18))]; exact hP, hS.F ht⟩) hS.2.2 dX0_numberOf_22
def fX_changed (tv : Nat → Int64) (nt : Nat) (x1 : Int32) (x2 : Int32) (x3 : Int32) (x4 : Int32) : Int32 × (Nat → Int64) × Nat := if (bI (fX_isType nt x1)) = 0 then ((-1 : Int32), tv, nt) else if (bI (fX_isType nt x4)) = 0 then ((-1 : Int32), tv, nt) else if x3 < 0 then ((-1 : Int32), tv, nt) else if (fX_placesOf (tv x1.toNatClampNeg)) < x3 then ((-1 : Int32), tv, nt) else if x2 < 0 then ((-1 : Int32), tv, nt) else if x2 ≤ ((fX_placesOf (tv x1.toNatClampNeg)) - x3) then if (((fX_placesOf (tv x1.toNatClampNeg)) - x3) + (fX_placesOf (tv x4.toNatClampNeg))) ≤ (10 : Int32) then (nbR (fnd (fun i => decide (tv i = wpI (wpI (wpI ((fX_resultOf (tv x1.toNatClampNeg)).toInt64) (tv x1.toNatClampNeg) (0 : Int32) x2) (tv x4.toNatClampNeg) (0 : Int32) (fX_placesOf (tv x4.toNatClampNeg))) (tv x1.toNatClampNeg) (x2 + x3) (fX_placesOf (tv x1.toNatClampNeg)))) nt 0) nt, (nbV (fnd (fun i => decide (tv i = wpI (wpI (wpI ((fX_resultOf (tv x1.toNatClampNeg)).toInt64) (tv x1.toNatClampNeg) (0 : Int32) x2) (tv x4.toNatClampNeg) (0 : Int32) (fX_placesOf (tv x4.toNatClampNeg))) (tv x1.toNatClampNeg) (x2 + x3) (fX_placesOf (tv x1.toNatClampNeg)))) nt 0) nt tv (vp_updL tv nt (wpI (wpI (wpI ((fX_resultOf (tv x1.toNatClampNeg)).toInt64) (tv x1.toNatClampNeg) (0 : Int32) x2) (tv x4.toNatClampNeg) (0 : Int32) (fX_placesOf (tv x4.toNatClampNeg))) (tv x1.toNatClampNeg) (x2 + x3) (fX_placesOf (tv x1.toNatClampNeg))))), (nbN (fnd (fun i => decide (tv i = wpI (wpI (wpI ((fX_resultOf (tv x1.toNatClampNeg)).toInt64) (tv x1.toNatClampNeg) (0 : Int32) x2) (tv x4.toNatClampNeg) (0 : Int32) (fX_placesOf (tv x4.toNatClampNeg))) (tv x1.toNatClampNeg) (x2 + x3) (fX_placesOf (tv x1.toNatClampNeg)))) nt 0) nt)) else ((-1 : Int32), tv, nt) else ((-1 : Int32), tv, nt)
set_option maxHeartbeats 4000000 in
set_option maxRecDepth 100000 in
theorem cX_changed (l : Launch) (dC : Nat → ClassId) (dI : Nat → Nat → Nat) (h0 qa qr qt : Nat) (cI cJ : ClassId) (av : Nat → Int32) (nk : Nat) (rv : Nat → Int32) (nr : Nat) (tv : Nat → Int64) (nt : Nat) (pk : Int32) (pn : Int64) (x1 : Int32) (x2 : Int32) (x3 : Int32) (x4 : Int32) (hnt : nt ≤ 300) : Met l yX0_changed wsX0_changed ({ frames := 3, cells := 0, slots := 0, locals := 71 }) (kPw (dC, dI) vwCl [(cI, .int), (cJ, .long)] (xW h0 qa qr qt cI cJ av nk rv nr tv nt pk pn) [.ref h0, .int x1, .int x2, .int x3, .int x4]) (kQw (dC, dI) vwCl (some (.int ((fX_changed tv nt x1 x2 x3 x4).1))) (xW h0 qa qr qt cI cJ av nk rv nr ((fX_changed tv nt x1 x2 x3 x4).2.1) ((fX_changed tv nt x1 x2 x3 x4).2.2) pk pn) [h0, qa, qr, qt]) 0 0 (fun q => q ∈ [h0, qa, qr, qt]) := by
  refine Met.ofW (cc := cX0_changed) (maxL := 12) (ret := (some .int)) (by decide) rfl ?_
  intro p e s m args below meth c s₁ B hml hv
  obtain ⟨rfl, hP, hK, hD0⟩ := hv
  have hx := B.exec
  have hb := B.bytes
  have hr := B.returns
  have hts := atoms_spec (ws := wsX0_changed) B.pre
  have hown : s.vm.findClass RX0 = some m.cls := findClass_of_methodNamed B.named
  have hlocks := B.notSynchronized
  have hin : ∀ w ∈ u_ws RX0 TX0 8, w ∈ wsX0_changed := by decide +kernel
  have hD : va_D (fun q => q ∈ [h0, qa, qr, qt]) (xW h0 qa qr qt cI cJ av nk rv nr tv nt pk pn) := kD_self hD0 rfl
  have hS : va_S (fun q => q ∈ [h0, qa, qr, qt]) s.heap s.heap [] := va_S.rf
  have hl := lv_entry ([.ref h0, .int x1, .int x2, .int x3, .int x4]) (n := 12) (Nat.le_of_ble_eq_true rfl)
  rw [lg_entry_eq]
  generalize (lg_sl ([.ref h0, .int x1, .int x2, .int x3, .int x4]) ++ List.replicate (12 - (lg_sl ([.ref h0, .int x1, .int x2, .int x3, .int x4])).length) Slot.unset).toArray = ls at hl ⊢
  have hl : lv_has ls 12 [(0, .ref h0), (1, .int x1), (2, .int x2), (3, .int x3), (4, .int x4)] := hl
  refine lv_aload_n hx hb dX0_changed_0 rfl (lv_at hl 0 rfl) ?_
  refine lv_iload_n hx hb dX0_changed_1 rfl (lv_at hl 1 rfl) ?_
  refine kc_R [.int x1] [] ⟨hx, hb, hml, hown, hts⟩ (cX_isType l dC dI h0 qa qr qt cI cJ av nk rv nr tv nt pk pn x1) (cwV 1 hts gX0_changed_X0_isType rfl rfl rfl (by decide +kernel) ⟨(Nat.le_of_ble_eq_true rfl), (Nat.le_of_ble_eq_true rfl)⟩) hP hK (ci := 0) (q0 := 0) rfl rfl rfl rfl hl.1 rfl (Nat.le_of_ble_eq_true rfl) dX0_changed_2 ⟨Nat.zero_le _, Nat.zero_le _⟩ ?_
  refine lv_if_eq (tgt := 17) hx hb dX0_changed_5 (by decide) (fun c5 => ?_) (fun c5 => ?_)
  · refine lv_iconst (v := -1) hx hb dX0_changed_17 (by decide) ?_
    exact W.iret hx hb hr (fun t ht hW => ⟨by rw [fX_changed, if_pos c5] <;> rfl, by rw [ht, fX_changed, if_pos c5]; exact hP, hS.F ht⟩) hS.2.2 dX0_changed_18
  · refine lv_aload_n hx hb dX0_changed_8 rfl (lv_at hl 0 rfl) ?_
    refine lv_iload hx hb dX0_changed_9 (lv_at hl 4 rfl) ?_
    refine kc_R [.int x4] [] ⟨hx, hb, hml, hown, hts⟩ (cX_isType l dC dI h0 qa qr qt cI cJ av nk rv nr tv nt pk pn x4) (cwV 1 hts gX0_changed_X0_isType rfl rfl rfl (by decide +kernel) ⟨(Nat.le_of_ble_eq_true rfl), (Nat.le_of_ble_eq_true rfl)⟩) hP hK (ci := 0) (q0 := 0) rfl rfl rfl rfl hl.1 rfl (Nat.le_of_ble_eq_true rfl) dX0_changed_11 ⟨Nat.zero_le _, Nat.zero_le _⟩ ?_
    refine lv_if_ne (tgt := 19) hx hb dX0_changed_14 (by decide) (fun c14 => ?_) (fun c14 => ?_)
    · refine lv_aload_n hx hb dX0_changed_19 rfl (lv_at hl 0 rfl) ?_
      refine va_get (D := (dC, dI)) (ci := 0) (v := .ref qt) (C := RX0) (T := TX0) (N := 8) hx hb hts hin hown hK hP 0 rfl rfl 4 (by decide) (hts (.fieldLink RX0 27 "KindTable" "types" "[J") (by decide +kernel)) (fun _ h9 => h9) rfl dX0_changed_20 ?_
      refine lv_iload_n hx hb dX0_changed_23 rfl (lv_at hl 1 rfl) ?_
      refine va_lald hx hb hK hP 3 1 rfl rfl (vp_in_mono (kT_in hnt c5) hnt) dX0_changed_24 ?_
      refine lv_lstore (lv' := [(5, .long (tv x1.toNatClampNeg)), (0, .ref h0), (1, .int x1), (2, .int x2), (3, .int x3), (4, .int x4)]) hx hb dX0_changed_25 hl (by decide) rfl (fun ls hl => ?_)
      refine lv_aload_n hx hb dX0_changed_27 rfl (lv_at hl 1 rfl) ?_
      refine va_get (D := (dC, dI)) (ci := 0) (v := .ref qt) (C := RX0) (T := TX0) (N := 8) hx hb hts hin hown hK hP 0 rfl rfl 4 (by decide) (hts (.fieldLink RX0 27 "KindTable" "types" "[J") (by decide +kernel)) (fun _ h9 => h9) rfl dX0_changed_28 ?_
      refine lv_iload hx hb dX0_changed_31 (lv_at hl 5 rfl) ?_
      refine va_lald hx hb hK hP 3 1 rfl rfl (vp_in_mono (kT_in hnt c14) hnt) dX0_changed_33 ?_
      refine lv_lstore (lv' := [(7, .long (tv x4.toNatClampNeg)), (5, .long (tv x1.toNatClampNeg)), (0, .ref h0), (1, .int x1), (2, .int x2), (3, .int x3), (4, .int x4)]) hx hb dX0_changed_34 hl (by decide) rfl (fun ls hl => ?_)
      refine lv_lload hx hb dX0_changed_36 (lv_at hl 1 rfl) ?_
      refine kc_S [.long (tv x1.toNatClampNeg)] [] ⟨hx, hb, hml, hown, hts⟩ (cX_placesOf l (tv x1.toNatClampNeg)) (cwS 1 hts gX0_changed_X0_placesOf rfl rfl rfl (by decide +kernel) ⟨(Nat.le_of_ble_eq_true rfl), (Nat.le_of_ble_eq_true rfl)⟩) rfl hl.1 rfl (Nat.le_of_ble_eq_true rfl) dX0_changed_38 ⟨Nat.zero_le _, Nat.zero_le _⟩ ?_
      refine lv_istore (lv' := [(9, .int (fX_placesOf (tv x1.toNatClampNeg))), (7, .long (tv x4.toNatClampNeg)), (5, .long (tv x1.toNatClampNeg)), (0, .ref h0), (1, .int x1), (2, .int x2), (3, .int x3), (4, .int x4)]) hx hb dX0_changed_41 hl (by decide) rfl (fun ls hl => ?_)
      refine lv_iload_n hx hb dX0_changed_43 rfl (lv_at hl 6 rfl) ?_
      refine lv_if_lt (tgt := 65) hx hb dX0_changed_44 (by decide) (fun c44 => ?_) (fun c44 => ?_)
      · refine lv_iconst (v := -1) hx hb dX0_changed_65 (by decide) ?_
        exact W.iret hx hb hr (fun t ht hW => ⟨by rw [fX_changed, if_neg c5, if_neg c14, if_pos c44] <;> rfl, by rw [ht, fX_changed, if_neg c5, if_neg c14, if_pos c44]; exact hP, hS.F ht⟩) hS.2.2 dX0_changed_66
      · refine lv_iload_n hx hb dX0_changed_47 rfl (lv_at hl 6 rfl) ?_
        refine lv_iload hx hb dX0_changed_48 (lv_at hl 0 rfl) ?_
        refine lv_icmp_gt (tgt := 65) hx hb dX0_changed_50 (by decide) (fun c50 => ?_) (fun c50 => ?_)
        · refine lv_iconst (v := -1) hx hb dX0_changed_65 (by decide) ?_
          exact W.iret hx hb hr (fun t ht hW => ⟨by rw [fX_changed, if_neg c5, if_neg c14, if_neg c44, if_pos c50] <;> rfl, by rw [ht, fX_changed, if_neg c5, if_neg c14, if_neg c44, if_pos c50]; exact hP, hS.F ht⟩) hS.2.2 dX0_changed_66
        · refine lv_iload_n hx hb dX0_changed_53 rfl (lv_at hl 5 rfl) ?_
          refine lv_if_lt (tgt := 65) hx hb dX0_changed_54 (by decide) (fun c54 => ?_) (fun c54 => ?_)
          · refine lv_iconst (v := -1) hx hb dX0_changed_65 (by decide) ?_
            exact W.iret hx hb hr (fun t ht hW => ⟨by rw [fX_changed, if_neg c5, if_neg c14, if_neg c44, if_neg c50, if_pos c54] <;> rfl, by rw [ht, fX_changed, if_neg c5, if_neg c14, if_neg c44, if_neg c50, if_pos c54]; exact hP, hS.F ht⟩) hS.2.2 dX0_changed_66
          · refine lv_iload_n hx hb dX0_changed_57 rfl (lv_at hl 5 rfl) ?_
            refine lv_iload hx hb dX0_changed_58 (lv_at hl 0 rfl) ?_
            refine lv_iload_n hx hb dX0_changed_60 rfl (lv_at hl 6 rfl) ?_
            refine lv_isub hx hb dX0_changed_61 ?_
            refine lv_icmp_le (tgt := 67) hx hb dX0_changed_62 (by decide) (fun c62 => ?_) (fun c62 => ?_)
            · refine lv_iload hx hb dX0_changed_67 (lv_at hl 0 rfl) ?_
              refine lv_iload_n hx hb dX0_changed_69 rfl (lv_at hl 6 rfl) ?_
              refine lv_isub hx hb dX0_changed_70 ?_
              refine lv_lload hx hb dX0_changed_71 (lv_at hl 1 rfl) ?_
              refine kc_S [.long (tv x4.toNatClampNeg)] [.int ((fX_placesOf (tv x1.toNatClampNeg)) - x3)] ⟨hx, hb, hml, hown, hts⟩ (cX_placesOf l (tv x4.toNatClampNeg)) (cwS 1 hts gX0_changed_X0_placesOf rfl rfl rfl (by decide +kernel) ⟨(Nat.le_of_ble_eq_true rfl), (Nat.le_of_ble_eq_true rfl)⟩) rfl hl.1 rfl (Nat.le_of_ble_eq_true rfl) dX0_changed_73 ⟨Nat.zero_le _, Nat.zero_le _⟩ ?_
              refine lv_iadd hx hb dX0_changed_76 ?_
              refine lv_bipush (v := 10) hx hb dX0_changed_77 (by decide) ?_
              refine lv_icmp_le (tgt := 84) hx hb dX0_changed_79 (by decide) (fun c79 => ?_) (fun c79 => ?_)
              · refine lv_lload hx hb dX0_changed_84 (lv_at hl 2 rfl) ?_
                refine kc_S [.long (tv x1.toNatClampNeg)] [] ⟨hx, hb, hml, hown, hts⟩ (cX_resultOf l (tv x1.toNatClampNeg)) (cwS 1 hts gX0_changed_X0_resultOf rfl rfl rfl (by decide +kernel) ⟨(Nat.le_of_ble_eq_true rfl), (Nat.le_of_ble_eq_true rfl)⟩) rfl hl.1 rfl (Nat.le_of_ble_eq_true rfl) dX0_changed_86 ⟨Nat.zero_le _, Nat.zero_le _⟩ ?_
                refine lv_i2l hx hb dX0_changed_89 rfl ?_
                refine lv_lstore (lv' := [(10, .long ((fX_resultOf (tv x1.toNatClampNeg)).toInt64)), (9, .int (fX_placesOf (tv x1.toNatClampNeg))), (7, .long (tv x4.toNatClampNeg)), (5, .long (tv x1.toNatClampNeg)), (0, .ref h0), (1, .int x1), (2, .int x2), (3, .int x3), (4, .int x4)]) hx hb dX0_changed_90 hl (by decide) rfl (fun ls hl => ?_)
                refine lv_lload hx hb dX0_changed_92 (lv_at hl 0 rfl) ?_
                refine lv_lload hx hb dX0_changed_94 (lv_at hl 3 rfl) ?_
                refine lv_iconst (v := 0) hx hb dX0_changed_96 (by decide) ?_
                refine lv_iload_n hx hb dX0_changed_97 rfl (lv_at hl 6 rfl) ?_
                refine kc_S [.long ((fX_resultOf (tv x1.toNatClampNeg)).toInt64), .long (tv x1.toNatClampNeg), .int 0, .int x2] [] ⟨hx, hb, hml, hown, hts⟩ (cX_withPlacesOf l ((fX_resultOf (tv x1.toNatClampNeg)).toInt64) (tv x1.toNatClampNeg) (0 : Int32) x2 (by decide) (k2_le c54)) (cwS 4 hts gX0_changed_X0_withPlacesOf rfl rfl rfl (by decide +kernel) ⟨(Nat.le_of_ble_eq_true rfl), (Nat.le_of_ble_eq_true rfl)⟩) rfl hl.1 rfl (Nat.le_of_ble_eq_true rfl) dX0_changed_98 ⟨Nat.zero_le _, Nat.zero_le _⟩ ?_
                refine lv_lstore (lv' := [(10, .long (wpI ((fX_resultOf (tv x1.toNatClampNeg)).toInt64) (tv x1.toNatClampNeg) (0 : Int32) x2)), (9, .int (fX_placesOf (tv x1.toNatClampNeg))), (7, .long (tv x4.toNatClampNeg)), (5, .long (tv x1.toNatClampNeg)), (0, .ref h0), (1, .int x1), (2, .int x2), (3, .int x3), (4, .int x4)]) hx hb dX0_changed_101 hl (by decide) rfl (fun ls hl => ?_)
                refine lv_lload hx hb dX0_changed_103 (lv_at hl 0 rfl) ?_
                refine lv_lload hx hb dX0_changed_105 (lv_at hl 2 rfl) ?_
                refine lv_iconst (v := 0) hx hb dX0_changed_107 (by decide) ?_
                refine lv_lload hx hb dX0_changed_108 (lv_at hl 2 rfl) ?_
                refine kc_S [.long (tv x4.toNatClampNeg)] [.int 0, .long (tv x4.toNatClampNeg), .long (wpI ((fX_resultOf (tv x1.toNatClampNeg)).toInt64) (tv x1.toNatClampNeg) (0 : Int32) x2)] ⟨hx, hb, hml, hown, hts⟩ (cX_placesOf l (tv x4.toNatClampNeg)) (cwS 1 hts gX0_changed_X0_placesOf rfl rfl rfl (by decide +kernel) ⟨(Nat.le_of_ble_eq_true rfl), (Nat.le_of_ble_eq_true rfl)⟩) rfl hl.1 rfl (Nat.le_of_ble_eq_true rfl) dX0_changed_110 ⟨Nat.zero_le _, Nat.zero_le _⟩ ?_
                refine kc_S [.long (wpI ((fX_resultOf (tv x1.toNatClampNeg)).toInt64) (tv x1.toNatClampNeg) (0 : Int32) x2), .long (tv x4.toNatClampNeg), .int 0, .int (fX_placesOf (tv x4.toNatClampNeg))] [] ⟨hx, hb, hml, hown, hts⟩ (cX_withPlacesOf l (wpI ((fX_resultOf (tv x1.toNatClampNeg)).toInt64) (tv x1.toNatClampNeg) (0 : Int32) x2) (tv x4.toNatClampNeg) (0 : Int32) (fX_placesOf (tv x4.toNatClampNeg)) (by decide) ((plo_in _).1)) (cwS 4 hts gX0_changed_X0_withPlacesOf rfl rfl rfl (by decide +kernel) ⟨(Nat.le_of_ble_eq_true rfl), (Nat.le_of_ble_eq_true rfl)⟩) rfl hl.1 rfl (Nat.le_of_ble_eq_true rfl) dX0_changed_113 ⟨Nat.zero_le _, Nat.zero_le _⟩ ?_
                refine lv_lstore (lv' := [(10, .long (wpI (wpI ((fX_resultOf (tv x1.toNatClampNeg)).toInt64) (tv x1.toNatClampNeg) (0 : Int32) x2) (tv x4.toNatClampNeg) (0 : Int32) (fX_placesOf (tv x4.toNatClampNeg)))), (9, .int (fX_placesOf (tv x1.toNatClampNeg))), (7, .long (tv x4.toNatClampNeg)), (5, .long (tv x1.toNatClampNeg)), (0, .ref h0), (1, .int x1), (2, .int x2), (3, .int x3), (4, .int x4)]) hx hb dX0_changed_116 hl (by decide) rfl (fun ls hl => ?_)
                refine lv_lload hx hb dX0_changed_118 (lv_at hl 0 rfl) ?_
                refine lv_lload hx hb dX0_changed_120 (lv_at hl 3 rfl) ?_
                refine lv_iload_n hx hb dX0_changed_122 rfl (lv_at hl 6 rfl) ?_
                refine lv_iload_n hx hb dX0_changed_123 rfl (lv_at hl 7 rfl) ?_
                refine lv_iadd hx hb dX0_changed_124 ?_
                refine lv_iload hx hb dX0_changed_125 (lv_at hl 1 rfl) ?_
                refine kc_S [.long (wpI (wpI ((fX_resultOf (tv x1.toNatClampNeg)).toInt64) (tv x1.toNatClampNeg) (0 : Int32) x2) (tv x4.toNatClampNeg) (0 : Int32) (fX_placesOf (tv x4.toNatClampNeg))), .long (tv x1.toNatClampNeg), .int (x2 + x3), .int (fX_placesOf (tv x1.toNatClampNeg))] [] ⟨hx, hb, hml, hown, hts⟩ (cX_withPlacesOf l (wpI (wpI ((fX_resultOf (tv x1.toNatClampNeg)).toInt64) (tv x1.toNatClampNeg) (0 : Int32) x2) (tv x4.toNatClampNeg) (0 : Int32) (fX_placesOf (tv x4.toNatClampNeg))) (tv x1.toNatClampNeg) (x2 + x3) (fX_placesOf (tv x1.toNatClampNeg)) ((chg_in c44 c50 c54 c62).1) ((chg_in c44 c50 c54 c62).2)) (cwS 4 hts gX0_changed_X0_withPlacesOf rfl rfl rfl (by decide +kernel) ⟨(Nat.le_of_ble_eq_true rfl), (Nat.le_of_ble_eq_true rfl)⟩) rfl hl.1 rfl (Nat.le_of_ble_eq_true rfl) dX0_changed_127 ⟨Nat.zero_le _, Nat.zero_le _⟩ ?_
                refine lv_lstore (lv' := [(10, .long (wpI (wpI (wpI ((fX_resultOf (tv x1.toNatClampNeg)).toInt64) (tv x1.toNatClampNeg) (0 : Int32) x2) (tv x4.toNatClampNeg) (0 : Int32) (fX_placesOf (tv x4.toNatClampNeg))) (tv x1.toNatClampNeg) (x2 + x3) (fX_placesOf (tv x1.toNatClampNeg)))), (9, .int (fX_placesOf (tv x1.toNatClampNeg))), (7, .long (tv x4.toNatClampNeg)), (5, .long (tv x1.toNatClampNeg)), (0, .ref h0), (1, .int x1), (2, .int x2), (3, .int x3), (4, .int x4)]) hx hb dX0_changed_130 hl (by decide) rfl (fun ls hl => ?_)
                refine lv_aload_n hx hb dX0_changed_132 rfl (lv_at hl 4 rfl) ?_
                refine lv_lload hx hb dX0_changed_133 (lv_at hl 0 rfl) ?_
                refine kc_W [.long (wpI (wpI (wpI ((fX_resultOf (tv x1.toNatClampNeg)).toInt64) (tv x1.toNatClampNeg) (0 : Int32) x2) (tv x4.toNatClampNeg) (0 : Int32) (fX_placesOf (tv x4.toNatClampNeg))) (tv x1.toNatClampNeg) (x2 + x3) (fX_placesOf (tv x1.toNatClampNeg)))] [] ⟨hx, hb, hml, hown, hts⟩ (cX_numberOf l dC dI h0 qa qr qt cI cJ av nk rv nr tv nt pk pn (wpI (wpI (wpI ((fX_resultOf (tv x1.toNatClampNeg)).toInt64) (tv x1.toNatClampNeg) (0 : Int32) x2) (tv x4.toNatClampNeg) (0 : Int32) (fX_placesOf (tv x4.toNatClampNeg))) (tv x1.toNatClampNeg) (x2 + x3) (fX_placesOf (tv x1.toNatClampNeg))) hnt) (cwV 1 hts gX0_changed_X0_numberOf rfl rfl rfl (by decide +kernel) ⟨(Nat.le_of_ble_eq_true rfl), (Nat.le_of_ble_eq_true rfl)⟩) hP hK hD hS rfl (ci := 0) (q0 := 0) rfl rfl rfl rfl hl.1 rfl (Nat.le_of_ble_eq_true rfl) dX0_changed_135 ⟨Nat.zero_le _, Nat.zero_le _⟩ (fun H locs hP1 hS hk1 => ?_)
                have hP : va_P (dC, dI) vwCl (xW h0 qa qr qt cI cJ av nk rv nr (nbV (fnd (fun i => decide (tv i = wpI (wpI (wpI ((fX_resultOf (tv x1.toNatClampNeg)).toInt64) (tv x1.toNatClampNeg) (0 : Int32) x2) (tv x4.toNatClampNeg) (0 : Int32) (fX_placesOf (tv x4.toNatClampNeg))) (tv x1.toNatClampNeg) (x2 + x3) (fX_placesOf (tv x1.toNatClampNeg)))) nt 0) nt tv (vp_updL tv nt (wpI (wpI (wpI ((fX_resultOf (tv x1.toNatClampNeg)).toInt64) (tv x1.toNatClampNeg) (0 : Int32) x2) (tv x4.toNatClampNeg) (0 : Int32) (fX_placesOf (tv x4.toNatClampNeg))) (tv x1.toNatClampNeg) (x2 + x3) (fX_placesOf (tv x1.toNatClampNeg))))) (nbN (fnd (fun i => decide (tv i = wpI (wpI (wpI ((fX_resultOf (tv x1.toNatClampNeg)).toInt64) (tv x1.toNatClampNeg) (0 : Int32) x2) (tv x4.toNatClampNeg) (0 : Int32) (fX_placesOf (tv x4.toNatClampNeg))) (tv x1.toNatClampNeg) (x2 + x3) (fX_placesOf (tv x1.toNatClampNeg)))) nt 0) nt) pk pn) H := hP1
                have hD : va_D _ (xW h0 qa qr qt cI cJ av nk rv nr (nbV (fnd (fun i => decide (tv i = wpI (wpI (wpI ((fX_resultOf (tv x1.toNatClampNeg)).toInt64) (tv x1.toNatClampNeg) (0 : Int32) x2) (tv x4.toNatClampNeg) (0 : Int32) (fX_placesOf (tv x4.toNatClampNeg))) (tv x1.toNatClampNeg) (x2 + x3) (fX_placesOf (tv x1.toNatClampNeg)))) nt 0) nt tv (vp_updL tv nt (wpI (wpI (wpI ((fX_resultOf (tv x1.toNatClampNeg)).toInt64) (tv x1.toNatClampNeg) (0 : Int32) x2) (tv x4.toNatClampNeg) (0 : Int32) (fX_placesOf (tv x4.toNatClampNeg))) (tv x1.toNatClampNeg) (x2 + x3) (fX_placesOf (tv x1.toNatClampNeg))))) (nbN (fnd (fun i => decide (tv i = wpI (wpI (wpI ((fX_resultOf (tv x1.toNatClampNeg)).toInt64) (tv x1.toNatClampNeg) (0 : Int32) x2) (tv x4.toNatClampNeg) (0 : Int32) (fX_placesOf (tv x4.toNatClampNeg))) (tv x1.toNatClampNeg) (x2 + x3) (fX_placesOf (tv x1.toNatClampNeg)))) nt 0) nt) pk pn) := kD_same hD rfl
                exact W.iret hx hb hr (fun t ht hW => ⟨by rw [fX_changed, if_neg c5, if_neg c14, if_neg c44, if_neg c50, if_neg c54, if_pos c62, if_pos c79] <;> rfl, by rw [ht, fX_changed, if_neg c5, if_neg c14, if_neg c44, if_neg c50, if_neg c54, if_pos c62, if_pos c79]; exact hP, hS.F ht⟩) hS.2.2 dX0_changed_138
              · refine lv_iconst (v := -1) hx hb dX0_changed_82 (by decide) ?_
                exact W.iret hx hb hr (fun t ht hW => ⟨by rw [fX_changed, if_neg c5, if_neg c14, if_neg c44, if_neg c50, if_neg c54, if_pos c62, if_neg c79] <;> rfl, by rw [ht, fX_changed, if_neg c5, if_neg c14, if_neg c44, if_neg c50, if_neg c54, if_pos c62, if_neg c79]; exact hP, hS.F ht⟩) hS.2.2 dX0_changed_83
            · refine lv_iconst (v := -1) hx hb dX0_changed_65 (by decide) ?_
              exact W.iret hx hb hr (fun t ht hW => ⟨by rw [fX_changed, if_neg c5, if_neg c14, if_neg c44, if_neg c50, if_neg c54, if_neg c62] <;> rfl, by rw [ht, fX_changed, if_neg c5, if_neg c14, if_neg c44, if_neg c50, if_neg c54, if_neg c62]; exact hP, hS.F ht⟩) hS.2.2 dX0_changed_66
    · refine lv_iconst (v := -1) hx hb dX0_changed_17 (by decide) ?_
      exact W.iret hx hb hr (fun t ht hW => ⟨by rw [fX_changed, if_neg c5, if_pos c14] <;> rfl, by rw [ht, fX_changed, if_neg c5, if_pos c14]; exact hP, hS.F ht⟩) hS.2.2 dX0_changed_18
def tyb (rv : Nat → Int32) (a : Int64) : Nat → Int64
  | 0 => a
  | k + 1 => fX_withPlace (tyb rv a k) (rv k)
def fX_typeOK (nk : Nat) (rv : Nat → Int32) (nr : Nat) (x1 : Int32) : Bool := fX_isKind nk x1 && decide (nr ≤ 10) && mall (fun k => fX_isKind nk (rv k) && !decide (rv k = 0)) nr
theorem tyOK_yes {nk nr : Nat} {rv : Nat → Int32} {x1 : Int32} (c : ¬ bI (fX_isKind nk x1) = 0) (c2 : nI nr ≤ (10 : Int32)) (hnr : nr ≤ 20) (he : mall (fun k => fX_isKind nk (rv k) && !decide (rv k = 0)) nr = true) : fX_typeOK nk rv nr x1 = true := by
  rw [fX_typeOK, bI_n0 c, he, decide_eq_true ((nI_leI (b := 10) (by omega) (by decide)).mp c2)]
  rfl
theorem mall_no {P : Nat → Bool} {n k : Nat} (hk : k < n) (h : P k = false) : mall P n = false := by
  cases hm : mall P n
  · rfl
  · rw [(mall_iff P n).mp hm k hk] at h
    cases h
theorem tyOK_no {nk nr k : Nat} {rv : Nat → Int32} {x1 : Int32} (hk : k < nr) (h : (fX_isKind nk (rv k) && !decide (rv k = 0)) = false) : fX_typeOK nk rv nr x1 = false := by
  rw [fX_typeOK, mall_no hk h, Bool.and_false]
theorem tyOK_k {nk nr : Nat} {rv : Nat → Int32} {x1 : Int32} (c : bI (fX_isKind nk x1) = 0) : fX_typeOK nk rv nr x1 = false := by
  rw [fX_typeOK, bI_e0 c]
  rfl
theorem tyOK_n {nk nr : Nat} {rv : Nat → Int32} {x1 : Int32} (hnr : nr ≤ 20) (c : ¬ nI nr ≤ (10 : Int32)) : fX_typeOK nk rv nr x1 = false := by
  rw [fX_typeOK, decide_eq_false (fun q => c (nI_le (b := 10) q (by decide))), Bool.and_false, Bool.false_and]

set_option maxHeartbeats 4000000 in
set_option maxRecDepth 100000 in
theorem cX_type (l : Launch) (dC : Nat → ClassId) (dI : Nat → Nat → Nat) (h0 qa qr qt : Nat) (cI cJ : ClassId) (av : Nat → Int32) (nk : Nat) (rv : Nat → Int32) (nr : Nat) (tv : Nat → Int64) (nt : Nat) (pk : Int32) (pn : Int64) (x1 : Int32) (hnt : nt ≤ 300) (hnr : nr ≤ 20) : Met l yX0_type wsX0_type ({ frames := 2, cells := 0, slots := 0, locals := 43 }) (kPw (dC, dI) vwCl [(cI, .int), (cJ, .long)] (xW h0 qa qr qt cI cJ av nk rv nr tv nt pk pn) [.ref h0, .int x1]) (kQw (dC, dI) vwCl (some (.int (if fX_typeOK nk rv nr x1 = true then nbR (fnd (fun i => decide (tv i = tyb rv x1.toInt64 nr)) nt 0) nt else (-1 : Int32)))) (xW h0 qa qr qt cI cJ av nk rv 0 (if fX_typeOK nk rv nr x1 = true then (nbV (fnd (fun i => decide (tv i = (tyb rv x1.toInt64 nr))) nt 0) nt tv (vp_updL tv nt (tyb rv x1.toInt64 nr))) else tv) (if fX_typeOK nk rv nr x1 = true then (nbN (fnd (fun i => decide (tv i = (tyb rv x1.toInt64 nr))) nt 0) nt) else nt) pk pn) [h0, qa, qr, qt]) 0 0 (fun q => q ∈ [h0, qa, qr, qt]) := by
  refine Met.ofW (cc := cX0_type) (maxL := 6) (ret := (some .int)) (by decide) rfl ?_
  intro p e s m args below meth c s₁ B hml hv
  obtain ⟨rfl, hP, hK, hD0⟩ := hv
  have hx := B.exec
  have hb := B.bytes
  have hr := B.returns
  have hts := atoms_spec (ws := wsX0_type) B.pre
  have hown : s.vm.findClass RX0 = some m.cls := findClass_of_methodNamed B.named
  have hlocks := B.notSynchronized
  have hin : ∀ w ∈ u_ws RX0 TX0 8, w ∈ wsX0_type := by decide +kernel
  have hD : va_D (fun q => q ∈ [h0, qa, qr, qt]) (xW h0 qa qr qt cI cJ av nk rv nr tv nt pk pn) := kD_self hD0 rfl
  have hS : va_S (fun q => q ∈ [h0, qa, qr, qt]) s.heap s.heap [] := va_S.rf
  have hl := lv_entry ([.ref h0, .int x1]) (n := 6) (Nat.le_of_ble_eq_true rfl)
  rw [lg_entry_eq]
  generalize (lg_sl ([.ref h0, .int x1]) ++ List.replicate (6 - (lg_sl ([.ref h0, .int x1])).length) Slot.unset).toArray = ls at hl ⊢
  have hl : lv_has ls 6 [(0, .ref h0), (1, .int x1)] := hl
  refine lv_aload_n hx hb dX0_type_0 rfl (lv_at hl 0 rfl) ?_
  refine va_get (D := (dC, dI)) (ci := 0) (v := .int (nI nr)) (C := RX0) (T := TX0) (N := 8) hx hb hts hin hown hK hP 0 rfl rfl 3 (by decide) (hts (.fieldLink RX0 24 "KindTable" "rowLength" "I") (by decide +kernel)) (fun _ h9 => h9) rfl dX0_type_1 ?_
  refine lv_istore_n (lv' := [(2, .int (nI nr)), (0, .ref h0), (1, .int x1)]) hx hb dX0_type_4 rfl hl (by decide) rfl (fun ls hl => ?_)
  refine lv_aload_n hx hb dX0_type_5 rfl (lv_at hl 1 rfl) ?_
  refine lv_iconst (v := 0) hx hb dX0_type_6 (by decide) ?_
  refine kv_topi (y := nI 0) rfl ?_
  refine va_put (D := (dC, dI)) (ci := 0) (v := .int (nI 0)) (ty := .int) (C := RX0) (T := TX0) (N := 8) hx hb hts hin tyX0 tyX0_ok nmX0 hown hK hP hD hS 0 rfl rfl 3 (by decide) (hts (.fieldLink RX0 24 "KindTable" "rowLength" "I") (by decide +kernel)) (fun _ h9 => h9) rfl (by decide +kernel) rfl rfl (Nat.le_of_ble_eq_true rfl) dX0_type_7 (fun H locs hP hD hS => ?_)
  have hP : va_P (dC, dI) vwCl (xW h0 qa qr qt cI cJ av nk rv 0 tv nt pk pn) H := hP
  have hD : va_D _ (xW h0 qa qr qt cI cJ av nk rv 0 tv nt pk pn) := hD
  refine lv_aload_n hx hb dX0_type_10 rfl (lv_at hl 1 rfl) ?_
  refine lv_iload_n hx hb dX0_type_11 rfl (lv_at hl 2 rfl) ?_
  refine kc_R [.int x1] [] ⟨hx, hb, hml, hown, hts⟩ (cX_isKind l dC dI h0 qa qr qt cI cJ av nk rv 0 tv nt pk pn x1) (cwV 1 hts gX0_type_X0_isKind rfl rfl rfl (by decide +kernel) ⟨(Nat.le_of_ble_eq_true rfl), (Nat.le_of_ble_eq_true rfl)⟩) hP hK (ci := 0) (q0 := 0) rfl rfl rfl rfl hl.1 rfl (Nat.le_of_ble_eq_true rfl) dX0_type_12 ⟨Nat.zero_le _, Nat.zero_le _⟩ ?_
  refine lv_if_eq (tgt := 24) hx hb dX0_type_15 (by decide) (fun c15 => ?_) (fun c15 => ?_)
  · refine lv_iconst (v := -1) hx hb dX0_type_24 (by decide) ?_
    exact W.iret hx hb hr (fun t ht hW => ⟨by rw [if_neg (by rw [(tyOK_k c15)]; decide)] <;> rfl, by rw [ht, if_neg (by rw [(tyOK_k c15)]; decide), if_neg (by rw [(tyOK_k c15)]; decide)]; exact hP, hS.F ht⟩) hS.2.2 dX0_type_25
  · refine lv_iload_n hx hb dX0_type_18 rfl (lv_at hl 0 rfl) ?_
    refine lv_bipush (v := 10) hx hb dX0_type_19 (by decide) ?_
    refine lv_icmp_le (tgt := 26) hx hb dX0_type_21 (by decide) (fun c21 => ?_) (fun c21 => ?_)
    · refine lv_iload_n hx hb dX0_type_26 rfl (lv_at hl 2 rfl) ?_
      refine lv_i2l hx hb dX0_type_27 rfl ?_
      refine lv_lstore_n (lv' := [(3, .long x1.toInt64), (2, .int (nI nr)), (0, .ref h0), (1, .int x1)]) hx hb dX0_type_28 rfl hl (by decide) rfl (fun ls hl => ?_)
      refine lv_iconst (v := 0) hx hb dX0_type_29 (by decide) ?_
      refine lv_istore (lv' := [(5, .int 0), (3, .long x1.toInt64), (2, .int (nI nr)), (0, .ref h0), (1, .int x1)]) hx hb dX0_type_30 hl (by decide) rfl (fun ls hl => ?_)
      suffices loop : ∀ (n k : Nat), k + n = nr → mall (fun k => fX_isKind nk (rv k) && !decide (rv k = 0)) k = true → ∀ (ls : Array Slot), lv_has ls 6 [(5, .int (nI k)), (3, .long (tyb rv x1.toInt64 k)), (2, .int (nI nr)), (0, .ref h0), (1, .int x1)] → W p l e (headSpec wsX0_type ({ frames := 2, cells := 0, slots := 0, locals := 43 })).room s m ([.ref h0, .int x1] : List Value).toArray below meth c H locs 0 0 (MQ below (kQw (dC, dI) vwCl (some (.int (if fX_typeOK nk rv nr x1 = true then nbR (fnd (fun i => decide (tv i = tyb rv x1.toInt64 nr)) nt 0) nt else (-1 : Int32)))) (xW h0 qa qr qt cI cJ av nk rv 0 (if fX_typeOK nk rv nr x1 = true then (nbV (fnd (fun i => decide (tv i = (tyb rv x1.toInt64 nr))) nt 0) nt tv (vp_updL tv nt (tyb rv x1.toInt64 nr))) else tv) (if fX_typeOK nk rv nr x1 = true then (nbN (fnd (fun i => decide (tv i = (tyb rv x1.toInt64 nr))) nt 0) nt) else nt) pk pn) [h0, qa, qr, qt]) ([.ref h0, .int x1] : List Value).toArray s 0 0 (fun q => q ∈ [h0, qa, qr, qt])) (F0 m 32 ls []) by
        exact loop nr 0 (by omega) rfl ls (lv_sub hl [0, 1, 2, 3, 4] rfl)
      intro n
      induction n with
      | zero =>
        intro k hk he ls hl
        obtain rfl : nr = k := by omega
        have hok : fX_typeOK nk rv nr x1 = true := tyOK_yes c15 c21 hnr he
        refine lv_iload hx hb dX0_type_32 (lv_at hl 0 rfl) ?_
        refine lv_iload_n hx hb dX0_type_34 rfl (lv_at hl 2 rfl) ?_
        refine lv_icmp_ge (tgt := 82) hx hb dX0_type_35 (by decide) (fun c35 => ?_) (fun c35 => ?_)
        · refine lv_aload_n hx hb dX0_type_82 rfl (lv_at hl 3 rfl) ?_
          refine lv_lload_n hx hb dX0_type_83 rfl (lv_at hl 1 rfl) ?_
          refine kc_W [.long (tyb rv x1.toInt64 nr)] [] ⟨hx, hb, hml, hown, hts⟩ (cX_numberOf l dC dI h0 qa qr qt cI cJ av nk rv 0 tv nt pk pn (tyb rv x1.toInt64 nr) hnt) (cwV 1 hts gX0_type_X0_numberOf rfl rfl rfl (by decide +kernel) ⟨(Nat.le_of_ble_eq_true rfl), (Nat.le_of_ble_eq_true rfl)⟩) hP hK hD hS rfl (ci := 0) (q0 := 0) rfl rfl rfl rfl hl.1 rfl (Nat.le_of_ble_eq_true rfl) dX0_type_84 ⟨Nat.zero_le _, Nat.zero_le _⟩ (fun H locs hP1 hS hk1 => ?_)
          have hP : va_P (dC, dI) vwCl (xW h0 qa qr qt cI cJ av nk rv 0 (nbV (fnd (fun i => decide (tv i = tyb rv x1.toInt64 nr)) nt 0) nt tv (vp_updL tv nt (tyb rv x1.toInt64 nr))) (nbN (fnd (fun i => decide (tv i = tyb rv x1.toInt64 nr)) nt 0) nt) pk pn) H := hP1
          have hD : va_D _ (xW h0 qa qr qt cI cJ av nk rv 0 (nbV (fnd (fun i => decide (tv i = tyb rv x1.toInt64 nr)) nt 0) nt tv (vp_updL tv nt (tyb rv x1.toInt64 nr))) (nbN (fnd (fun i => decide (tv i = tyb rv x1.toInt64 nr)) nt 0) nt) pk pn) := kD_same hD rfl
          exact W.iret hx hb hr (fun t ht hW => ⟨by rw [if_pos hok] <;> rfl, by rw [ht, if_pos hok, if_pos hok]; exact hP, hS.F ht⟩) hS.2.2 dX0_type_87
        · exact absurd (nI_le (by omega) (by omega)) c35
      | succ n ih =>
        intro k hk he ls hl
        refine lv_iload hx hb dX0_type_32 (lv_at hl 0 rfl) ?_
        refine lv_iload_n hx hb dX0_type_34 rfl (lv_at hl 2 rfl) ?_
        refine lv_icmp_ge (tgt := 82) hx hb dX0_type_35 (by decide) (fun c35 => ?_) (fun c35 => ?_)
        · exact absurd ((nI_leI (by omega) (by omega)).mp c35) (by omega)
        · refine lv_aload_n hx hb dX0_type_38 rfl (lv_at hl 3 rfl) ?_
          refine lv_aload_n hx hb dX0_type_39 rfl (lv_at hl 3 rfl) ?_
          refine va_get (D := (dC, dI)) (ci := 0) (v := .ref qr) (C := RX0) (T := TX0) (N := 8) hx hb hts hin hown hK hP 0 rfl rfl 2 (by decide) (hts (.fieldLink RX0 21 "KindTable" "row" "[I") (by decide +kernel)) (fun _ h9 => h9) rfl dX0_type_40 ?_
          refine lv_iload hx hb dX0_type_43 (lv_at hl 0 rfl) ?_
          refine va_iald hx hb hK hP 2 0 rfl rfl (vp_in_nI (by omega) (by decide)) dX0_type_45 ?_
          refine kv_topi (y := rv k) (by rw [nI_clamp (by omega)]) ?_
          refine kc_R [.int (rv k)] [] ⟨hx, hb, hml, hown, hts⟩ (cX_isKind l dC dI h0 qa qr qt cI cJ av nk rv 0 tv nt pk pn (rv k)) (cwV 1 hts gX0_type_X0_isKind rfl rfl rfl (by decide +kernel) ⟨(Nat.le_of_ble_eq_true rfl), (Nat.le_of_ble_eq_true rfl)⟩) hP hK (ci := 0) (q0 := 0) rfl rfl rfl rfl hl.1 rfl (Nat.le_of_ble_eq_true rfl) dX0_type_46 ⟨Nat.zero_le _, Nat.zero_le _⟩ ?_
          refine lv_if_eq (tgt := 62) hx hb dX0_type_49 (by decide) (fun c49 => ?_) (fun c49 => ?_)
          · refine lv_iconst (v := -1) hx hb dX0_type_62 (by decide) ?_
            exact W.iret hx hb hr (fun t ht hW => ⟨by rw [if_neg (by rw [(tyOK_no (k := k) (by omega) (by rw [bI_e0 c49] <;> rfl))]; decide)] <;> rfl, by rw [ht, if_neg (by rw [(tyOK_no (k := k) (by omega) (by rw [bI_e0 c49] <;> rfl))]; decide), if_neg (by rw [(tyOK_no (k := k) (by omega) (by rw [bI_e0 c49] <;> rfl))]; decide)]; exact hP, hS.F ht⟩) hS.2.2 dX0_type_63
          · refine lv_aload_n hx hb dX0_type_52 rfl (lv_at hl 3 rfl) ?_
            refine va_get (D := (dC, dI)) (ci := 0) (v := .ref qr) (C := RX0) (T := TX0) (N := 8) hx hb hts hin hown hK hP 0 rfl rfl 2 (by decide) (hts (.fieldLink RX0 21 "KindTable" "row" "[I") (by decide +kernel)) (fun _ h9 => h9) rfl dX0_type_53 ?_
            refine lv_iload hx hb dX0_type_56 (lv_at hl 0 rfl) ?_
            refine va_iald hx hb hK hP 2 0 rfl rfl (vp_in_nI (by omega) (by decide)) dX0_type_58 ?_
            refine kv_topi (y := rv k) (by rw [nI_clamp (by omega)]) ?_
            refine lv_if_ne (tgt := 64) hx hb dX0_type_59 (by decide) (fun c59 => ?_) (fun c59 => ?_)
            · refine lv_lload_n hx hb dX0_type_64 rfl (lv_at hl 1 rfl) ?_
              refine lv_aload_n hx hb dX0_type_65 rfl (lv_at hl 3 rfl) ?_
              refine va_get (D := (dC, dI)) (ci := 0) (v := .ref qr) (C := RX0) (T := TX0) (N := 8) hx hb hts hin hown hK hP 0 rfl rfl 2 (by decide) (hts (.fieldLink RX0 21 "KindTable" "row" "[I") (by decide +kernel)) (fun _ h9 => h9) rfl dX0_type_66 ?_
              refine lv_iload hx hb dX0_type_69 (lv_at hl 0 rfl) ?_
              refine va_iald hx hb hK hP 2 0 rfl rfl (vp_in_nI (by omega) (by decide)) dX0_type_71 ?_
              refine kv_topi (y := rv k) (by rw [nI_clamp (by omega)]) ?_
              refine kc_S [.long (tyb rv x1.toInt64 k), .int (rv k)] [] ⟨hx, hb, hml, hown, hts⟩ (cX_withPlace l (tyb rv x1.toInt64 k) (rv k)) (cwS 2 hts gX0_type_X0_withPlace rfl rfl rfl (by decide +kernel) ⟨(Nat.le_of_ble_eq_true rfl), (Nat.le_of_ble_eq_true rfl)⟩) rfl hl.1 rfl (Nat.le_of_ble_eq_true rfl) dX0_type_72 ⟨Nat.zero_le _, Nat.zero_le _⟩ ?_
              refine lv_lstore_n (lv' := [(3, .long (fX_withPlace (tyb rv x1.toInt64 k) (rv k))), (5, .int (nI k)), (2, .int (nI nr)), (0, .ref h0), (1, .int x1)]) hx hb dX0_type_75 rfl hl (by decide) rfl (fun ls hl => ?_)
              refine lv_iinc (v := nI (k + 1)) (lv' := [(5, .int (nI (k + 1))), (3, .long (fX_withPlace (tyb rv x1.toInt64 k) (rv k))), (2, .int (nI nr)), (0, .ref h0), (1, .int x1)]) hx hb dX0_type_76 hl (k := 1) rfl (nI_1 k) (by decide) rfl (fun ls hl => ?_)
              refine lv_goto (tgt := 32) hx hb dX0_type_79 (by decide) ?_
              exact ih (k + 1) (by omega) (by rw [mall, he, bI_n0 c49, decide_eq_false c59] <;> rfl) ls (lv_sub hl [0, 1, 2, 3, 4] rfl)
            · refine lv_iconst (v := -1) hx hb dX0_type_62 (by decide) ?_
              exact W.iret hx hb hr (fun t ht hW => ⟨by rw [if_neg (by rw [(tyOK_no (k := k) (by omega) (by rw [decide_eq_true c59, Bool.not_true, Bool.and_false]))]; decide)] <;> rfl, by rw [ht, if_neg (by rw [(tyOK_no (k := k) (by omega) (by rw [decide_eq_true c59, Bool.not_true, Bool.and_false]))]; decide), if_neg (by rw [(tyOK_no (k := k) (by omega) (by rw [decide_eq_true c59, Bool.not_true, Bool.and_false]))]; decide)]; exact hP, hS.F ht⟩) hS.2.2 dX0_type_63
    · refine lv_iconst (v := -1) hx hb dX0_type_24 (by decide) ?_
      exact W.iret hx hb hr (fun t ht hW => ⟨by rw [if_neg (by rw [(tyOK_n hnr c21)]; decide)] <;> rfl, by rw [ht, if_neg (by rw [(tyOK_n hnr c21)]; decide), if_neg (by rw [(tyOK_n hnr c21)]; decide)]; exact hP, hS.F ht⟩) hS.2.2 dX0_type_25
def fX_mayBe (nk : Nat) (tv : Nat → Int64) (nt : Nat) (bl : Nat → Nat → Bool) (x1 x2 : Int32) (x3 : Bool) : Bool := if (bI (fX_isType nt x1)) = 0 then false else if (bI (fX_isType nt x2)) = 0 then false else if (fX_placesOf (tv x1.toNatClampNeg)) = (fX_placesOf (tv x2.toNatClampNeg)) then if (bI (fX_may nk bl (fX_resultOf (tv x1.toNatClampNeg)) (fX_resultOf (tv x2.toNatClampNeg)) x3 true)) = 0 then false else mall (fun k => fX_may nk bl (fX_placeOf (tv x2.toNatClampNeg) (nI k)) (fX_placeOf (tv x1.toNatClampNeg) (nI k)) x3 false) (fX_placesOf (tv x1.toNatClampNeg)).toNatClampNeg else false
set_option maxHeartbeats 4000000 in
set_option maxRecDepth 100000 in
theorem cX_mayBe (l : Launch) (dC : Nat → ClassId) (dI : Nat → Nat → Nat) (h0 qa qr qt : Nat) (cI cJ : ClassId) (av : Nat → Int32) (nk : Nat) (rv : Nat → Int32) (nr : Nat) (tv : Nat → Int64) (nt : Nat) (pk : Int32) (pn : Int64) (bl : Nat → Nat → Bool) (x1 : Int32) (x2 : Int32) (x3 : Bool) (hAV : kAV bl av nk) (hnk : 20 ≤ nk ∧ nk ≤ 32) (hnt : nt ≤ 300) : Met l yX0_mayBe wsX0_mayBe ({ frames := 4, cells := 0, slots := 0, locals := 89 }) (kPr (dC, dI) vwCl [(cI, .int), (cJ, .long)] (xW h0 qa qr qt cI cJ av nk rv nr tv nt pk pn) [.ref h0, .int x1, .int x2, .int (bI x3)]) (k2_QcV (.int (bI (fX_mayBe nk tv nt bl x1 x2 x3)))) 0 0 kNo := by
  refine Met.ofW (cc := cX0_mayBe) (maxL := 10) (ret := (some .boolean)) (by decide) rfl ?_
  intro p e s m args below meth c s₁ B hml hv
  obtain ⟨rfl, hP, hK⟩ := hv
  have hx := B.exec
  have hb := B.bytes
  have hr := B.returns
  have hts := atoms_spec (ws := wsX0_mayBe) B.pre
  have hown : s.vm.findClass RX0 = some m.cls := findClass_of_methodNamed B.named
  have hlocks := B.notSynchronized
  have hin : ∀ w ∈ u_ws RX0 TX0 8, w ∈ wsX0_mayBe := by decide +kernel
  have hl := lv_entry ([.ref h0, .int x1, .int x2, .int (bI x3)]) (n := 10) (Nat.le_of_ble_eq_true rfl)
  rw [lg_entry_eq]
  generalize (lg_sl ([.ref h0, .int x1, .int x2, .int (bI x3)]) ++ List.replicate (10 - (lg_sl ([.ref h0, .int x1, .int x2, .int (bI x3)])).length) Slot.unset).toArray = ls at hl ⊢
  have hl : lv_has ls 10 [(0, .ref h0), (1, .int x1), (2, .int x2), (3, .int (bI x3))] := hl
  refine lv_aload_n hx hb dX0_mayBe_0 rfl (lv_at hl 0 rfl) ?_
  refine lv_iload_n hx hb dX0_mayBe_1 rfl (lv_at hl 1 rfl) ?_
  refine kc_R [.int x1] [] ⟨hx, hb, hml, hown, hts⟩ (cX_isType l dC dI h0 qa qr qt cI cJ av nk rv nr tv nt pk pn x1) (cwV 1 hts gX0_mayBe_X0_isType rfl rfl rfl (by decide +kernel) ⟨(Nat.le_of_ble_eq_true rfl), (Nat.le_of_ble_eq_true rfl)⟩) hP hK (ci := 0) (q0 := 0) rfl rfl rfl rfl hl.1 rfl (Nat.le_of_ble_eq_true rfl) dX0_mayBe_2 ⟨Nat.zero_le _, Nat.zero_le _⟩ ?_
  refine lv_if_eq (tgt := 16) hx hb dX0_mayBe_5 (by decide) (fun c5 => ?_) (fun c5 => ?_)
  · refine lv_iconst (v := 0) hx hb dX0_mayBe_16 (by decide) ?_
    exact W.zret hx hb hr rfl (fun t ht hW => ⟨by rw [fX_mayBe, if_pos c5] <;> rfl, ht⟩) (fun _ h => by cases h) dX0_mayBe_17
  · refine lv_aload_n hx hb dX0_mayBe_8 rfl (lv_at hl 0 rfl) ?_
    refine lv_iload_n hx hb dX0_mayBe_9 rfl (lv_at hl 2 rfl) ?_
    refine kc_R [.int x2] [] ⟨hx, hb, hml, hown, hts⟩ (cX_isType l dC dI h0 qa qr qt cI cJ av nk rv nr tv nt pk pn x2) (cwV 1 hts gX0_mayBe_X0_isType rfl rfl rfl (by decide +kernel) ⟨(Nat.le_of_ble_eq_true rfl), (Nat.le_of_ble_eq_true rfl)⟩) hP hK (ci := 0) (q0 := 0) rfl rfl rfl rfl hl.1 rfl (Nat.le_of_ble_eq_true rfl) dX0_mayBe_10 ⟨Nat.zero_le _, Nat.zero_le _⟩ ?_
    refine lv_if_ne (tgt := 18) hx hb dX0_mayBe_13 (by decide) (fun c13 => ?_) (fun c13 => ?_)
    · refine lv_aload_n hx hb dX0_mayBe_18 rfl (lv_at hl 0 rfl) ?_
      refine va_get (D := (dC, dI)) (ci := 0) (v := .ref qt) (C := RX0) (T := TX0) (N := 8) hx hb hts hin hown hK hP 0 rfl rfl 4 (by decide) (hts (.fieldLink RX0 27 "KindTable" "types" "[J") (by decide +kernel)) (fun _ h9 => h9) rfl dX0_mayBe_19 ?_
      refine lv_iload_n hx hb dX0_mayBe_22 rfl (lv_at hl 1 rfl) ?_
      refine va_lald hx hb hK hP 3 1 rfl rfl (vp_in_mono (kT_in hnt c5) hnt) dX0_mayBe_23 ?_
      refine lv_lstore (lv' := [(4, .long (tv x1.toNatClampNeg)), (0, .ref h0), (1, .int x1), (2, .int x2), (3, .int (bI x3))]) hx hb dX0_mayBe_24 hl (by decide) rfl (fun ls hl => ?_)
      refine lv_aload_n hx hb dX0_mayBe_26 rfl (lv_at hl 1 rfl) ?_
      refine va_get (D := (dC, dI)) (ci := 0) (v := .ref qt) (C := RX0) (T := TX0) (N := 8) hx hb hts hin hown hK hP 0 rfl rfl 4 (by decide) (hts (.fieldLink RX0 27 "KindTable" "types" "[J") (by decide +kernel)) (fun _ h9 => h9) rfl dX0_mayBe_27 ?_
      refine lv_iload_n hx hb dX0_mayBe_30 rfl (lv_at hl 3 rfl) ?_
      refine va_lald hx hb hK hP 3 1 rfl rfl (vp_in_mono (kT_in hnt c13) hnt) dX0_mayBe_31 ?_
      refine lv_lstore (lv' := [(6, .long (tv x2.toNatClampNeg)), (4, .long (tv x1.toNatClampNeg)), (0, .ref h0), (1, .int x1), (2, .int x2), (3, .int (bI x3))]) hx hb dX0_mayBe_32 hl (by decide) rfl (fun ls hl => ?_)
      refine lv_lload hx hb dX0_mayBe_34 (lv_at hl 1 rfl) ?_
      refine kc_S [.long (tv x1.toNatClampNeg)] [] ⟨hx, hb, hml, hown, hts⟩ (cX_placesOf l (tv x1.toNatClampNeg)) (cwS 1 hts gX0_mayBe_X0_placesOf rfl rfl rfl (by decide +kernel) ⟨(Nat.le_of_ble_eq_true rfl), (Nat.le_of_ble_eq_true rfl)⟩) rfl hl.1 rfl (Nat.le_of_ble_eq_true rfl) dX0_mayBe_36 ⟨Nat.zero_le _, Nat.zero_le _⟩ ?_
      refine lv_istore (lv' := [(8, .int (fX_placesOf (tv x1.toNatClampNeg))), (6, .long (tv x2.toNatClampNeg)), (4, .long (tv x1.toNatClampNeg)), (0, .ref h0), (1, .int x1), (2, .int x2), (3, .int (bI x3))]) hx hb dX0_mayBe_39 hl (by decide) rfl (fun ls hl => ?_)
      refine lv_iload hx hb dX0_mayBe_41 (lv_at hl 0 rfl) ?_
      refine lv_lload hx hb dX0_mayBe_43 (lv_at hl 1 rfl) ?_
      refine kc_S [.long (tv x2.toNatClampNeg)] [.int (fX_placesOf (tv x1.toNatClampNeg))] ⟨hx, hb, hml, hown, hts⟩ (cX_placesOf l (tv x2.toNatClampNeg)) (cwS 1 hts gX0_mayBe_X0_placesOf rfl rfl rfl (by decide +kernel) ⟨(Nat.le_of_ble_eq_true rfl), (Nat.le_of_ble_eq_true rfl)⟩) rfl hl.1 rfl (Nat.le_of_ble_eq_true rfl) dX0_mayBe_45 ⟨Nat.zero_le _, Nat.zero_le _⟩ ?_
      refine lv_icmp_ne (tgt := 70) hx hb dX0_mayBe_48 (by decide) (fun c48 => ?_) (fun c48 => ?_)
      · refine lv_iconst (v := 0) hx hb dX0_mayBe_70 (by decide) ?_
        exact W.zret hx hb hr rfl (fun t ht hW => ⟨by rw [fX_mayBe, if_neg c5, if_neg c13, if_neg c48] <;> rfl, ht⟩) (fun _ h => by cases h) dX0_mayBe_71
      · refine lv_aload_n hx hb dX0_mayBe_51 rfl (lv_at hl 3 rfl) ?_
        refine lv_lload hx hb dX0_mayBe_52 (lv_at hl 2 rfl) ?_
        refine kc_S [.long (tv x1.toNatClampNeg)] [.ref h0] ⟨hx, hb, hml, hown, hts⟩ (cX_resultOf l (tv x1.toNatClampNeg)) (cwS 1 hts gX0_mayBe_X0_resultOf rfl rfl rfl (by decide +kernel) ⟨(Nat.le_of_ble_eq_true rfl), (Nat.le_of_ble_eq_true rfl)⟩) rfl hl.1 rfl (Nat.le_of_ble_eq_true rfl) dX0_mayBe_54 ⟨Nat.zero_le _, Nat.zero_le _⟩ ?_
        refine lv_lload hx hb dX0_mayBe_57 (lv_at hl 1 rfl) ?_
        refine kc_S [.long (tv x2.toNatClampNeg)] [.int (fX_resultOf (tv x1.toNatClampNeg)), .ref h0] ⟨hx, hb, hml, hown, hts⟩ (cX_resultOf l (tv x2.toNatClampNeg)) (cwS 1 hts gX0_mayBe_X0_resultOf rfl rfl rfl (by decide +kernel) ⟨(Nat.le_of_ble_eq_true rfl), (Nat.le_of_ble_eq_true rfl)⟩) rfl hl.1 rfl (Nat.le_of_ble_eq_true rfl) dX0_mayBe_59 ⟨Nat.zero_le _, Nat.zero_le _⟩ ?_
        refine lv_iload_n hx hb dX0_mayBe_62 rfl (lv_at hl 6 rfl) ?_
        refine lv_iconst (v := 1) hx hb dX0_mayBe_63 (by decide) ?_
        refine kc_R [.int (fX_resultOf (tv x1.toNatClampNeg)), .int (fX_resultOf (tv x2.toNatClampNeg)), .int (bI x3), .int 1] [] ⟨hx, hb, hml, hown, hts⟩ (cX_may l dC dI h0 qa qr qt cI cJ av nk rv nr tv nt pk pn bl (fX_resultOf (tv x1.toNatClampNeg)) (fX_resultOf (tv x2.toNatClampNeg)) x3 true hAV hnk) (cwV 4 hts gX0_mayBe_X0_may rfl rfl rfl (by decide +kernel) ⟨(Nat.le_of_ble_eq_true rfl), (Nat.le_of_ble_eq_true rfl)⟩) hP hK (ci := 0) (q0 := 0) rfl rfl rfl rfl hl.1 rfl (Nat.le_of_ble_eq_true rfl) dX0_mayBe_64 ⟨Nat.zero_le _, Nat.zero_le _⟩ ?_
        refine lv_if_ne (tgt := 72) hx hb dX0_mayBe_67 (by decide) (fun c67 => ?_) (fun c67 => ?_)
        · refine lv_iconst (v := 0) hx hb dX0_mayBe_72 (by decide) ?_
          refine lv_istore (lv' := [(9, .int 0), (8, .int (fX_placesOf (tv x1.toNatClampNeg))), (6, .long (tv x2.toNatClampNeg)), (4, .long (tv x1.toNatClampNeg)), (0, .ref h0), (1, .int x1), (2, .int x2), (3, .int (bI x3))]) hx hb dX0_mayBe_73 hl (by decide) rfl (fun ls hl => ?_)
          obtain ⟨N, hN, eN⟩ := plo_of (tv x1.toNatClampNeg)
          have hfn : fX_mayBe nk tv nt bl x1 x2 x3 = mall (fun k => fX_may nk bl (fX_placeOf (tv x2.toNatClampNeg) (nI k)) (fX_placeOf (tv x1.toNatClampNeg) (nI k)) x3 false) N := by rw [fX_mayBe, if_neg c5, if_neg c13, if_pos c48, if_neg c67, eN, nI_clamp (by omega)]
          suffices loop : ∀ (n k : Nat), k + n = N → mall (fun k => fX_may nk bl (fX_placeOf (tv x2.toNatClampNeg) (nI k)) (fX_placeOf (tv x1.toNatClampNeg) (nI k)) x3 false) k = true → ∀ (ls : Array Slot), lv_has ls 10 [(9, .int (nI k)), (8, .int (fX_placesOf (tv x1.toNatClampNeg))), (6, .long (tv x2.toNatClampNeg)), (4, .long (tv x1.toNatClampNeg)), (0, .ref h0), (1, .int x1), (2, .int x2), (3, .int (bI x3))] → W p l e (headSpec wsX0_mayBe ({ frames := 4, cells := 0, slots := 0, locals := 89 })).room s m ([.ref h0, .int x1, .int x2, .int (bI x3)] : List Value).toArray below meth c s.heap [] 0 0 (MQ below (k2_QcV (.int (bI (fX_mayBe nk tv nt bl x1 x2 x3)))) ([.ref h0, .int x1, .int x2, .int (bI x3)] : List Value).toArray s 0 0 kNo) (F0 m 75 ls []) by
            exact loop N 0 (by omega) rfl ls (lv_sub hl [0, 1, 2, 3, 4, 5, 6, 7] rfl)
          intro n
          induction n with
          | zero =>
            intro k hk he ls hl
            obtain rfl : N = k := by omega
            refine lv_iload hx hb dX0_mayBe_75 (lv_at hl 0 rfl) ?_
            refine lv_iload hx hb dX0_mayBe_77 (lv_at hl 1 rfl) ?_
            refine lv_icmp_ge (tgt := 113) hx hb dX0_mayBe_79 (by decide) (fun c79 => ?_) (fun c79 => ?_)
            · refine lv_iconst (v := 1) hx hb dX0_mayBe_113 (by decide) ?_
              exact W.zret hx hb hr rfl (fun t ht hW => ⟨by rw [hfn, he] <;> rfl, ht⟩) (fun _ h => by cases h) dX0_mayBe_114
            · exact absurd (by rw [eN]; exact nI_le (by omega) (by omega)) c79
          | succ n ih =>
            intro k hk he ls hl
            refine lv_iload hx hb dX0_mayBe_75 (lv_at hl 0 rfl) ?_
            refine lv_iload hx hb dX0_mayBe_77 (lv_at hl 1 rfl) ?_
            refine lv_icmp_ge (tgt := 113) hx hb dX0_mayBe_79 (by decide) (fun c79 => ?_) (fun c79 => ?_)
            · rw [eN] at c79; exact absurd ((nI_leI (by omega) (by omega)).mp c79) (by omega)
            · refine lv_aload_n hx hb dX0_mayBe_82 rfl (lv_at hl 4 rfl) ?_
              refine lv_lload hx hb dX0_mayBe_83 (lv_at hl 2 rfl) ?_
              refine lv_iload hx hb dX0_mayBe_85 (lv_at hl 0 rfl) ?_
              refine kc_S [.long (tv x2.toNatClampNeg), .int (nI k)] [.ref h0] ⟨hx, hb, hml, hown, hts⟩ (cX_placeOf l (tv x2.toNatClampNeg) (nI k)) (cwS 2 hts gX0_mayBe_X0_placeOf rfl rfl rfl (by decide +kernel) ⟨(Nat.le_of_ble_eq_true rfl), (Nat.le_of_ble_eq_true rfl)⟩) rfl hl.1 rfl (Nat.le_of_ble_eq_true rfl) dX0_mayBe_87 ⟨Nat.zero_le _, Nat.zero_le _⟩ ?_
              refine lv_lload hx hb dX0_mayBe_90 (lv_at hl 3 rfl) ?_
              refine lv_iload hx hb dX0_mayBe_92 (lv_at hl 0 rfl) ?_
              refine kc_S [.long (tv x1.toNatClampNeg), .int (nI k)] [.int (fX_placeOf (tv x2.toNatClampNeg) (nI k)), .ref h0] ⟨hx, hb, hml, hown, hts⟩ (cX_placeOf l (tv x1.toNatClampNeg) (nI k)) (cwS 2 hts gX0_mayBe_X0_placeOf rfl rfl rfl (by decide +kernel) ⟨(Nat.le_of_ble_eq_true rfl), (Nat.le_of_ble_eq_true rfl)⟩) rfl hl.1 rfl (Nat.le_of_ble_eq_true rfl) dX0_mayBe_94 ⟨Nat.zero_le _, Nat.zero_le _⟩ ?_
              refine lv_iload_n hx hb dX0_mayBe_97 rfl (lv_at hl 7 rfl) ?_
              refine lv_iconst (v := 0) hx hb dX0_mayBe_98 (by decide) ?_
              refine kc_R [.int (fX_placeOf (tv x2.toNatClampNeg) (nI k)), .int (fX_placeOf (tv x1.toNatClampNeg) (nI k)), .int (bI x3), .int 0] [] ⟨hx, hb, hml, hown, hts⟩ (cX_may l dC dI h0 qa qr qt cI cJ av nk rv nr tv nt pk pn bl (fX_placeOf (tv x2.toNatClampNeg) (nI k)) (fX_placeOf (tv x1.toNatClampNeg) (nI k)) x3 false hAV hnk) (cwV 4 hts gX0_mayBe_X0_may rfl rfl rfl (by decide +kernel) ⟨(Nat.le_of_ble_eq_true rfl), (Nat.le_of_ble_eq_true rfl)⟩) hP hK (ci := 0) (q0 := 0) rfl rfl rfl rfl hl.1 rfl (Nat.le_of_ble_eq_true rfl) dX0_mayBe_99 ⟨Nat.zero_le _, Nat.zero_le _⟩ ?_
              refine lv_if_ne (tgt := 107) hx hb dX0_mayBe_102 (by decide) (fun c102 => ?_) (fun c102 => ?_)
              · refine lv_iinc (v := nI (k + 1)) (lv' := [(9, .int (nI (k + 1))), (8, .int (fX_placesOf (tv x1.toNatClampNeg))), (6, .long (tv x2.toNatClampNeg)), (4, .long (tv x1.toNatClampNeg)), (0, .ref h0), (1, .int x1), (2, .int x2), (3, .int (bI x3))]) hx hb dX0_mayBe_107 hl (k := 0) rfl (nI_1 k) (by decide) rfl (fun ls hl => ?_)
                refine lv_goto (tgt := 75) hx hb dX0_mayBe_110 (by decide) ?_
                exact ih (k + 1) (by omega) (by rw [mall, he, bI_n0 c102] <;> rfl) ls (lv_sub hl [0, 1, 2, 3, 4, 5, 6, 7] rfl)
              · refine lv_iconst (v := 0) hx hb dX0_mayBe_105 (by decide) ?_
                exact W.zret hx hb hr rfl (fun t ht hW => ⟨by rw [hfn, mall_no (k := k) (by omega) (bI_e0 c102)] <;> rfl, ht⟩) (fun _ h => by cases h) dX0_mayBe_106
        · refine lv_iconst (v := 0) hx hb dX0_mayBe_70 (by decide) ?_
          exact W.zret hx hb hr rfl (fun t ht hW => ⟨by rw [fX_mayBe, if_neg c5, if_neg c13, if_pos c48, if_pos c67] <;> rfl, ht⟩) (fun _ h => by cases h) dX0_mayBe_71
    · refine lv_iconst (v := 0) hx hb dX0_mayBe_16 (by decide) ?_
      exact W.zret hx hb hr rfl (fun t ht hW => ⟨by rw [fX_mayBe, if_neg c5, if_pos c13] <;> rfl, ht⟩) (fun _ h => by cases h) dX0_mayBe_17
end
section
def fM_isPlain  (x0 : Int32) : Bool := if x0 < (1 : Int32) then false else if (6 : Int32) < x0 then false else true
set_option maxHeartbeats 4000000 in
set_option maxRecDepth 100000 in
theorem cM_isPlain (l : Launch) (x0 : Int32) : Met l yX1_isPlain wsZ1_isPlain ({ frames := 0, cells := 0, slots := 0, locals := 0 }) (kPs [.int x0]) (k2_QcV (.int (bI (fM_isPlain x0)))) 0 0 kNo := by
  refine Met.ofW (cc := cX1_isPlain) (maxL := 1) (ret := (some .boolean)) (by decide) rfl ?_
  intro p e s m args below meth c s₁ B hml hv
  obtain rfl : args = ([.int x0] : List Value).toArray := hv
  have hx := B.exec
  have hb := B.bytes
  have hr := B.returns
  have hts := atoms_spec (ws := wsZ1_isPlain) B.pre
  have hown : s.vm.findClass RX1 = some m.cls := findClass_of_methodNamed B.named
  have hlocks := B.notSynchronized
  have hl := lv_entry ([.int x0]) (n := 1) (Nat.le_of_ble_eq_true rfl)
  rw [lg_entry_eq]
  generalize (lg_sl ([.int x0]) ++ List.replicate (1 - (lg_sl ([.int x0])).length) Slot.unset).toArray = ls at hl ⊢
  have hl : lv_has ls 1 [(0, .int x0)] := hl
  refine lv_iload_n hx hb dX1_isPlain_0 rfl (lv_at hl 0 rfl) ?_
  refine lv_iconst (v := 1) hx hb dX1_isPlain_1 (by decide) ?_
  refine lv_icmp_lt (tgt := 15) hx hb dX1_isPlain_2 (by decide) (fun c2 => ?_) (fun c2 => ?_)
  · refine lv_iconst (v := 0) hx hb dX1_isPlain_15 (by decide) ?_
    exact W.zret hx hb hr rfl (fun t ht hW => ⟨by rw [fM_isPlain, if_pos c2] <;> rfl, ht⟩) (fun _ h => by cases h) dX1_isPlain_16
  · refine lv_iload_n hx hb dX1_isPlain_5 rfl (lv_at hl 0 rfl) ?_
    refine lv_bipush (v := 6) hx hb dX1_isPlain_6 (by decide) ?_
    refine lv_icmp_gt (tgt := 15) hx hb dX1_isPlain_8 (by decide) (fun c8 => ?_) (fun c8 => ?_)
    · refine lv_iconst (v := 0) hx hb dX1_isPlain_15 (by decide) ?_
      exact W.zret hx hb hr rfl (fun t ht hW => ⟨by rw [fM_isPlain, if_neg c2, if_pos c8] <;> rfl, ht⟩) (fun _ h => by cases h) dX1_isPlain_16
    · refine lv_iconst (v := 1) hx hb dX1_isPlain_11 (by decide) ?_
      refine lv_goto (tgt := 16) hx hb dX1_isPlain_12 (by decide) ?_
      exact W.zret hx hb hr rfl (fun t ht hW => ⟨by rw [fM_isPlain, if_neg c2, if_neg c8] <;> rfl, ht⟩) (fun _ h => by cases h) dX1_isPlain_16
def fM_isReference  (x0 : Int32) : Bool := if x0 < (7 : Int32) then false else true
set_option maxHeartbeats 4000000 in
set_option maxRecDepth 100000 in
theorem cM_isReference (l : Launch) (x0 : Int32) : Met l yX1_isReference wsZ1_isReference ({ frames := 0, cells := 0, slots := 0, locals := 0 }) (kPs [.int x0]) (k2_QcV (.int (bI (fM_isReference x0)))) 0 0 kNo := by
  refine Met.ofW (cc := cX1_isReference) (maxL := 1) (ret := (some .boolean)) (by decide) rfl ?_
  intro p e s m args below meth c s₁ B hml hv
  obtain rfl : args = ([.int x0] : List Value).toArray := hv
  have hx := B.exec
  have hb := B.bytes
  have hr := B.returns
  have hts := atoms_spec (ws := wsZ1_isReference) B.pre
  have hown : s.vm.findClass RX1 = some m.cls := findClass_of_methodNamed B.named
  have hlocks := B.notSynchronized
  have hl := lv_entry ([.int x0]) (n := 1) (Nat.le_of_ble_eq_true rfl)
  rw [lg_entry_eq]
  generalize (lg_sl ([.int x0]) ++ List.replicate (1 - (lg_sl ([.int x0])).length) Slot.unset).toArray = ls at hl ⊢
  have hl : lv_has ls 1 [(0, .int x0)] := hl
  refine lv_iload_n hx hb dX1_isReference_0 rfl (lv_at hl 0 rfl) ?_
  refine lv_bipush (v := 7) hx hb dX1_isReference_1 (by decide) ?_
  refine lv_icmp_lt (tgt := 10) hx hb dX1_isReference_3 (by decide) (fun c3 => ?_) (fun c3 => ?_)
  · refine lv_iconst (v := 0) hx hb dX1_isReference_10 (by decide) ?_
    exact W.zret hx hb hr rfl (fun t ht hW => ⟨by rw [fM_isReference, if_pos c3] <;> rfl, ht⟩) (fun _ h => by cases h) dX1_isReference_11
  · refine lv_iconst (v := 1) hx hb dX1_isReference_6 (by decide) ?_
    refine lv_goto (tgt := 11) hx hb dX1_isReference_7 (by decide) ?_
    exact W.zret hx hb hr rfl (fun t ht hW => ⟨by rw [fM_isReference, if_neg c3] <;> rfl, ht⟩) (fun _ h => by cases h) dX1_isReference_11
def fM_isBox  (x0 : Int32) : Bool := if x0 ≤ (8 : Int32) then false else if (15 : Int32) ≤ x0 then false else true
set_option maxHeartbeats 4000000 in
set_option maxRecDepth 100000 in
theorem cM_isBox (l : Launch) (x0 : Int32) : Met l yX1_isBox wsZ1_isBox ({ frames := 0, cells := 0, slots := 0, locals := 0 }) (kPs [.int x0]) (k2_QcV (.int (bI (fM_isBox x0)))) 0 0 kNo := by
  refine Met.ofW (cc := cX1_isBox) (maxL := 1) (ret := (some .boolean)) (by decide) rfl ?_
  intro p e s m args below meth c s₁ B hml hv
  obtain rfl : args = ([.int x0] : List Value).toArray := hv
  have hx := B.exec
  have hb := B.bytes
  have hr := B.returns
  have hts := atoms_spec (ws := wsZ1_isBox) B.pre
  have hown : s.vm.findClass RX1 = some m.cls := findClass_of_methodNamed B.named
  have hlocks := B.notSynchronized
  have hl := lv_entry ([.int x0]) (n := 1) (Nat.le_of_ble_eq_true rfl)
  rw [lg_entry_eq]
  generalize (lg_sl ([.int x0]) ++ List.replicate (1 - (lg_sl ([.int x0])).length) Slot.unset).toArray = ls at hl ⊢
  have hl : lv_has ls 1 [(0, .int x0)] := hl
  refine lv_iload_n hx hb dX1_isBox_0 rfl (lv_at hl 0 rfl) ?_
  refine lv_bipush (v := 8) hx hb dX1_isBox_1 (by decide) ?_
  refine lv_icmp_le (tgt := 16) hx hb dX1_isBox_3 (by decide) (fun c3 => ?_) (fun c3 => ?_)
  · refine lv_iconst (v := 0) hx hb dX1_isBox_16 (by decide) ?_
    exact W.zret hx hb hr rfl (fun t ht hW => ⟨by rw [fM_isBox, if_pos c3] <;> rfl, ht⟩) (fun _ h => by cases h) dX1_isBox_17
  · refine lv_iload_n hx hb dX1_isBox_6 rfl (lv_at hl 0 rfl) ?_
    refine lv_bipush (v := 15) hx hb dX1_isBox_7 (by decide) ?_
    refine lv_icmp_ge (tgt := 16) hx hb dX1_isBox_9 (by decide) (fun c9 => ?_) (fun c9 => ?_)
    · refine lv_iconst (v := 0) hx hb dX1_isBox_16 (by decide) ?_
      exact W.zret hx hb hr rfl (fun t ht hW => ⟨by rw [fM_isBox, if_neg c3, if_pos c9] <;> rfl, ht⟩) (fun _ h => by cases h) dX1_isBox_17
    · refine lv_iconst (v := 1) hx hb dX1_isBox_12 (by decide) ?_
      refine lv_goto (tgt := 17) hx hb dX1_isBox_13 (by decide) ?_
      exact W.zret hx hb hr rfl (fun t ht hW => ⟨by rw [fM_isBox, if_neg c3, if_neg c9] <;> rfl, ht⟩) (fun _ h => by cases h) dX1_isBox_17
def fM_widens  (x0 : Int32) (x1 : Int32) : Bool := if x0 = x1 then true else if x0 = (2 : Int32) then if x1 = (3 : Int32) then true else if x1 = (5 : Int32) then true else if x1 = (6 : Int32) then true else false else if x0 = (3 : Int32) then if x1 = (5 : Int32) then true else if x1 = (6 : Int32) then true else false else if x0 = (4 : Int32) then if x1 = (5 : Int32) then true else if x1 = (6 : Int32) then true else false else if x0 = (5 : Int32) then if x1 = (6 : Int32) then true else false else false
set_option maxHeartbeats 4000000 in
set_option maxRecDepth 100000 in
theorem cM_widens (l : Launch) (x0 : Int32) (x1 : Int32) : Met l yX1_widens wsZ1_widens ({ frames := 0, cells := 0, slots := 0, locals := 0 }) (kPs [.int x0, .int x1]) (k2_QcV (.int (bI (fM_widens x0 x1)))) 0 0 kNo := by
  refine Met.ofW (cc := cX1_widens) (maxL := 2) (ret := (some .boolean)) (by decide) rfl ?_
  intro p e s m args below meth c s₁ B hml hv
  obtain rfl : args = ([.int x0, .int x1] : List Value).toArray := hv
  have hx := B.exec
  have hb := B.bytes
  have hr := B.returns
  have hts := atoms_spec (ws := wsZ1_widens) B.pre
  have hown : s.vm.findClass RX1 = some m.cls := findClass_of_methodNamed B.named
  have hlocks := B.notSynchronized
  have hl := lv_entry ([.int x0, .int x1]) (n := 2) (Nat.le_of_ble_eq_true rfl)
  rw [lg_entry_eq]
  generalize (lg_sl ([.int x0, .int x1]) ++ List.replicate (2 - (lg_sl ([.int x0, .int x1])).length) Slot.unset).toArray = ls at hl ⊢
  have hl : lv_has ls 2 [(0, .int x0), (1, .int x1)] := hl
  refine lv_iload_n hx hb dX1_widens_0 rfl (lv_at hl 0 rfl) ?_
  refine lv_iload_n hx hb dX1_widens_1 rfl (lv_at hl 1 rfl) ?_
  refine lv_icmp_ne (tgt := 7) hx hb dX1_widens_2 (by decide) (fun c2 => ?_) (fun c2 => ?_)
  · refine lv_iload_n hx hb dX1_widens_7 rfl (lv_at hl 0 rfl) ?_
    by_cases c8_2 : x0 = (2 : Int32)
    · refine lv_tableIn (tgt := 40) hx hb dX1_widens_8 (by rw [c8_2]; decide) (by rw [c8_2]; decide) (off := 32) (by rw [c8_2]; decide) (by decide) ?_
      refine lv_iload_n hx hb dX1_widens_40 rfl (lv_at hl 1 rfl) ?_
      refine lv_iconst (v := 3) hx hb dX1_widens_41 (by decide) ?_
      refine lv_icmp_eq (tgt := 56) hx hb dX1_widens_42 (by decide) (fun c42 => ?_) (fun c42 => ?_)
      · refine lv_iconst (v := 1) hx hb dX1_widens_56 (by decide) ?_
        refine lv_goto (tgt := 61) hx hb dX1_widens_57 (by decide) ?_
        exact W.zret hx hb hr rfl (fun t ht hW => ⟨by rw [fM_widens, if_neg c2, if_pos c8_2, if_pos c42] <;> rfl, ht⟩) (fun _ h => by cases h) dX1_widens_61
      · refine lv_iload_n hx hb dX1_widens_45 rfl (lv_at hl 1 rfl) ?_
        refine lv_iconst (v := 5) hx hb dX1_widens_46 (by decide) ?_
        refine lv_icmp_eq (tgt := 56) hx hb dX1_widens_47 (by decide) (fun c47 => ?_) (fun c47 => ?_)
        · refine lv_iconst (v := 1) hx hb dX1_widens_56 (by decide) ?_
          refine lv_goto (tgt := 61) hx hb dX1_widens_57 (by decide) ?_
          exact W.zret hx hb hr rfl (fun t ht hW => ⟨by rw [fM_widens, if_neg c2, if_pos c8_2, if_neg c42, if_pos c47] <;> rfl, ht⟩) (fun _ h => by cases h) dX1_widens_61
        · refine lv_iload_n hx hb dX1_widens_50 rfl (lv_at hl 1 rfl) ?_
          refine lv_bipush (v := 6) hx hb dX1_widens_51 (by decide) ?_
          refine lv_icmp_ne (tgt := 60) hx hb dX1_widens_53 (by decide) (fun c53 => ?_) (fun c53 => ?_)
          · refine lv_iconst (v := 0) hx hb dX1_widens_60 (by decide) ?_
            exact W.zret hx hb hr rfl (fun t ht hW => ⟨by rw [fM_widens, if_neg c2, if_pos c8_2, if_neg c42, if_neg c47, if_neg c53] <;> rfl, ht⟩) (fun _ h => by cases h) dX1_widens_61
          · refine lv_iconst (v := 1) hx hb dX1_widens_56 (by decide) ?_
            refine lv_goto (tgt := 61) hx hb dX1_widens_57 (by decide) ?_
            exact W.zret hx hb hr rfl (fun t ht hW => ⟨by rw [fM_widens, if_neg c2, if_pos c8_2, if_neg c42, if_neg c47, if_pos c53] <;> rfl, ht⟩) (fun _ h => by cases h) dX1_widens_61
    by_cases c8_3 : x0 = (3 : Int32)
    · refine lv_tableIn (tgt := 62) hx hb dX1_widens_8 (by rw [c8_3]; decide) (by rw [c8_3]; decide) (off := 54) (by rw [c8_3]; decide) (by decide) ?_
      refine lv_iload_n hx hb dX1_widens_62 rfl (lv_at hl 1 rfl) ?_
      refine lv_iconst (v := 5) hx hb dX1_widens_63 (by decide) ?_
      refine lv_icmp_eq (tgt := 73) hx hb dX1_widens_64 (by decide) (fun c64 => ?_) (fun c64 => ?_)
      · refine lv_iconst (v := 1) hx hb dX1_widens_73 (by decide) ?_
        refine lv_goto (tgt := 78) hx hb dX1_widens_74 (by decide) ?_
        exact W.zret hx hb hr rfl (fun t ht hW => ⟨by rw [fM_widens, if_neg c2, if_neg c8_2, if_pos c8_3, if_pos c64] <;> rfl, ht⟩) (fun _ h => by cases h) dX1_widens_78
      · refine lv_iload_n hx hb dX1_widens_67 rfl (lv_at hl 1 rfl) ?_
        refine lv_bipush (v := 6) hx hb dX1_widens_68 (by decide) ?_
        refine lv_icmp_ne (tgt := 77) hx hb dX1_widens_70 (by decide) (fun c70 => ?_) (fun c70 => ?_)
        · refine lv_iconst (v := 0) hx hb dX1_widens_77 (by decide) ?_
          exact W.zret hx hb hr rfl (fun t ht hW => ⟨by rw [fM_widens, if_neg c2, if_neg c8_2, if_pos c8_3, if_neg c64, if_neg c70] <;> rfl, ht⟩) (fun _ h => by cases h) dX1_widens_78
        · refine lv_iconst (v := 1) hx hb dX1_widens_73 (by decide) ?_
          refine lv_goto (tgt := 78) hx hb dX1_widens_74 (by decide) ?_
          exact W.zret hx hb hr rfl (fun t ht hW => ⟨by rw [fM_widens, if_neg c2, if_neg c8_2, if_pos c8_3, if_neg c64, if_pos c70] <;> rfl, ht⟩) (fun _ h => by cases h) dX1_widens_78
    by_cases c8_4 : x0 = (4 : Int32)
    · refine lv_tableIn (tgt := 79) hx hb dX1_widens_8 (by rw [c8_4]; decide) (by rw [c8_4]; decide) (off := 71) (by rw [c8_4]; decide) (by decide) ?_
      refine lv_iload_n hx hb dX1_widens_79 rfl (lv_at hl 1 rfl) ?_
      refine lv_iconst (v := 5) hx hb dX1_widens_80 (by decide) ?_
      refine lv_icmp_eq (tgt := 90) hx hb dX1_widens_81 (by decide) (fun c81 => ?_) (fun c81 => ?_)
      · refine lv_iconst (v := 1) hx hb dX1_widens_90 (by decide) ?_
        refine lv_goto (tgt := 95) hx hb dX1_widens_91 (by decide) ?_
        exact W.zret hx hb hr rfl (fun t ht hW => ⟨by rw [fM_widens, if_neg c2, if_neg c8_2, if_neg c8_3, if_pos c8_4, if_pos c81] <;> rfl, ht⟩) (fun _ h => by cases h) dX1_widens_95
      · refine lv_iload_n hx hb dX1_widens_84 rfl (lv_at hl 1 rfl) ?_
        refine lv_bipush (v := 6) hx hb dX1_widens_85 (by decide) ?_
        refine lv_icmp_ne (tgt := 94) hx hb dX1_widens_87 (by decide) (fun c87 => ?_) (fun c87 => ?_)
        · refine lv_iconst (v := 0) hx hb dX1_widens_94 (by decide) ?_
          exact W.zret hx hb hr rfl (fun t ht hW => ⟨by rw [fM_widens, if_neg c2, if_neg c8_2, if_neg c8_3, if_pos c8_4, if_neg c81, if_neg c87] <;> rfl, ht⟩) (fun _ h => by cases h) dX1_widens_95
        · refine lv_iconst (v := 1) hx hb dX1_widens_90 (by decide) ?_
          refine lv_goto (tgt := 95) hx hb dX1_widens_91 (by decide) ?_
          exact W.zret hx hb hr rfl (fun t ht hW => ⟨by rw [fM_widens, if_neg c2, if_neg c8_2, if_neg c8_3, if_pos c8_4, if_neg c81, if_pos c87] <;> rfl, ht⟩) (fun _ h => by cases h) dX1_widens_95
    by_cases c8_5 : x0 = (5 : Int32)
    · refine lv_tableIn (tgt := 96) hx hb dX1_widens_8 (by rw [c8_5]; decide) (by rw [c8_5]; decide) (off := 88) (by rw [c8_5]; decide) (by decide) ?_
      refine lv_iload_n hx hb dX1_widens_96 rfl (lv_at hl 1 rfl) ?_
      refine lv_bipush (v := 6) hx hb dX1_widens_97 (by decide) ?_
      refine lv_icmp_ne (tgt := 106) hx hb dX1_widens_99 (by decide) (fun c99 => ?_) (fun c99 => ?_)
      · refine lv_iconst (v := 0) hx hb dX1_widens_106 (by decide) ?_
        exact W.zret hx hb hr rfl (fun t ht hW => ⟨by rw [fM_widens, if_neg c2, if_neg c8_2, if_neg c8_3, if_neg c8_4, if_pos c8_5, if_neg c99] <;> rfl, ht⟩) (fun _ h => by cases h) dX1_widens_107
      · refine lv_iconst (v := 1) hx hb dX1_widens_102 (by decide) ?_
        refine lv_goto (tgt := 107) hx hb dX1_widens_103 (by decide) ?_
        exact W.zret hx hb hr rfl (fun t ht hW => ⟨by rw [fM_widens, if_neg c2, if_neg c8_2, if_neg c8_3, if_neg c8_4, if_pos c8_5, if_pos c99] <;> rfl, ht⟩) (fun _ h => by cases h) dX1_widens_107
    refine lv_tableOut (tgt := 108) hx hb dX1_widens_8 (by have h2 := lv_neT c8_2 (a := 2) (by decide); have h3 := lv_neT c8_3 (a := 3) (by decide); have h4 := lv_neT c8_4 (a := 4) (by decide); have h5 := lv_neT c8_5 (a := 5) (by decide); omega) (by decide) ?_
    refine lv_iconst (v := 0) hx hb dX1_widens_108 (by decide) ?_
    exact W.zret hx hb hr rfl (fun t ht hW => ⟨by rw [fM_widens, if_neg c2, if_neg c8_2, if_neg c8_3, if_neg c8_4, if_neg c8_5] <;> rfl, ht⟩) (fun _ h => by cases h) dX1_widens_109
  · refine lv_iconst (v := 1) hx hb dX1_widens_5 (by decide) ?_
    exact W.zret hx hb hr rfl (fun t ht hW => ⟨by rw [fM_widens, if_pos c2] <;> rfl, ht⟩) (fun _ h => by cases h) dX1_widens_6
def fM_forcedTo  (x0 : Int32) (x1 : Int64) : Int64 := if x0 = (1 : Int32) then x1 &&& (1 : Int64) else if x0 = (2 : Int32) then x1.toInt32.toInt8.toInt32.toInt64 else if x0 = (3 : Int32) then x1.toInt32.toInt16.toInt32.toInt64 else if x0 = (4 : Int32) then x1 &&& (65535 : Int64) else if x0 = (5 : Int32) then x1.toInt32.toInt64 else x1
set_option maxHeartbeats 4000000 in
set_option maxRecDepth 100000 in
theorem cM_forcedTo (l : Launch) (x0 : Int32) (x1 : Int64) : Met l yX1_forcedTo wsZ1_forcedTo ({ frames := 0, cells := 0, slots := 0, locals := 0 }) (kPs [.int x0, .long x1]) (k2_QcV (.long (fM_forcedTo x0 x1))) 0 0 kNo := by
  refine Met.ofW (cc := cX1_forcedTo) (maxL := 3) (ret := (some .long)) (by decide) rfl ?_
  intro p e s m args below meth c s₁ B hml hv
  obtain rfl : args = ([.int x0, .long x1] : List Value).toArray := hv
  have hx := B.exec
  have hb := B.bytes
  have hr := B.returns
  have hts := atoms_spec (ws := wsZ1_forcedTo) B.pre
  have hown : s.vm.findClass RX1 = some m.cls := findClass_of_methodNamed B.named
  have hlocks := B.notSynchronized
  have hl := lv_entry ([.int x0, .long x1]) (n := 3) (Nat.le_of_ble_eq_true rfl)
  rw [lg_entry_eq]
  generalize (lg_sl ([.int x0, .long x1]) ++ List.replicate (3 - (lg_sl ([.int x0, .long x1])).length) Slot.unset).toArray = ls at hl ⊢
  have hl : lv_has ls 3 [(0, .int x0), (1, .long x1)] := hl
  refine lv_iload_n hx hb dX1_forcedTo_0 rfl (lv_at hl 0 rfl) ?_
  by_cases c1_1 : x0 = (1 : Int32)
  · refine lv_tableIn (tgt := 36) hx hb dX1_forcedTo_1 (by rw [c1_1]; decide) (by rw [c1_1]; decide) (off := 35) (by rw [c1_1]; decide) (by decide) ?_
    refine lv_lload_n hx hb dX1_forcedTo_36 rfl (lv_at hl 1 rfl) ?_
    refine lv_lconst (v := 1) hx hb dX1_forcedTo_37 (by decide) ?_
    refine lv_land hx hb dX1_forcedTo_38 ?_
    exact W.lret hx hb hr (fun t ht hW => ⟨by rw [fM_forcedTo, if_pos c1_1] <;> rfl, ht⟩) (fun _ h => by cases h) dX1_forcedTo_39
  by_cases c1_2 : x0 = (2 : Int32)
  · refine lv_tableIn (tgt := 40) hx hb dX1_forcedTo_1 (by rw [c1_2]; decide) (by rw [c1_2]; decide) (off := 39) (by rw [c1_2]; decide) (by decide) ?_
    refine lv_lload_n hx hb dX1_forcedTo_40 rfl (lv_at hl 1 rfl) ?_
    refine lv_l2i hx hb dX1_forcedTo_41 rfl ?_
    refine lv_i2b hx hb dX1_forcedTo_42 rfl ?_
    refine lv_i2l hx hb dX1_forcedTo_43 rfl ?_
    exact W.lret hx hb hr (fun t ht hW => ⟨by rw [fM_forcedTo, if_neg c1_1, if_pos c1_2] <;> rfl, ht⟩) (fun _ h => by cases h) dX1_forcedTo_44
  by_cases c1_3 : x0 = (3 : Int32)
  · refine lv_tableIn (tgt := 45) hx hb dX1_forcedTo_1 (by rw [c1_3]; decide) (by rw [c1_3]; decide) (off := 44) (by rw [c1_3]; decide) (by decide) ?_
    refine lv_lload_n hx hb dX1_forcedTo_45 rfl (lv_at hl 1 rfl) ?_
    refine lv_l2i hx hb dX1_forcedTo_46 rfl ?_
    refine lv_i2s hx hb dX1_forcedTo_47 rfl ?_
    refine lv_i2l hx hb dX1_forcedTo_48 rfl ?_
    exact W.lret hx hb hr (fun t ht hW => ⟨by rw [fM_forcedTo, if_neg c1_1, if_neg c1_2, if_pos c1_3] <;> rfl, ht⟩) (fun _ h => by cases h) dX1_forcedTo_49
  by_cases c1_4 : x0 = (4 : Int32)
  · refine lv_tableIn (tgt := 50) hx hb dX1_forcedTo_1 (by rw [c1_4]; decide) (by rw [c1_4]; decide) (off := 49) (by rw [c1_4]; decide) (by decide) ?_
    refine lv_lload_n hx hb dX1_forcedTo_50 rfl (lv_at hl 1 rfl) ?_
    refine lv_ldc2 (v := 65535) hx hb hown (hts _ (List.mem_cons_of_mem _ tk_cl_49)) dX1_forcedTo_51 ?_
    refine lv_land hx hb dX1_forcedTo_54 ?_
    exact W.lret hx hb hr (fun t ht hW => ⟨by rw [fM_forcedTo, if_neg c1_1, if_neg c1_2, if_neg c1_3, if_pos c1_4] <;> rfl, ht⟩) (fun _ h => by cases h) dX1_forcedTo_55
  by_cases c1_5 : x0 = (5 : Int32)
  · refine lv_tableIn (tgt := 56) hx hb dX1_forcedTo_1 (by rw [c1_5]; decide) (by rw [c1_5]; decide) (off := 55) (by rw [c1_5]; decide) (by decide) ?_
    refine lv_lload_n hx hb dX1_forcedTo_56 rfl (lv_at hl 1 rfl) ?_
    refine lv_l2i hx hb dX1_forcedTo_57 rfl ?_
    refine lv_i2l hx hb dX1_forcedTo_58 rfl ?_
    exact W.lret hx hb hr (fun t ht hW => ⟨by rw [fM_forcedTo, if_neg c1_1, if_neg c1_2, if_neg c1_3, if_neg c1_4, if_pos c1_5] <;> rfl, ht⟩) (fun _ h => by cases h) dX1_forcedTo_59
  refine lv_tableOut (tgt := 60) hx hb dX1_forcedTo_1 (by have h1 := lv_neT c1_1 (a := 1) (by decide); have h2 := lv_neT c1_2 (a := 2) (by decide); have h3 := lv_neT c1_3 (a := 3) (by decide); have h4 := lv_neT c1_4 (a := 4) (by decide); have h5 := lv_neT c1_5 (a := 5) (by decide); omega) (by decide) ?_
  refine lv_lload_n hx hb dX1_forcedTo_60 rfl (lv_at hl 1 rfl) ?_
  exact W.lret hx hb hr (fun t ht hW => ⟨by rw [fM_forcedTo, if_neg c1_1, if_neg c1_2, if_neg c1_3, if_neg c1_4, if_neg c1_5] <;> rfl, ht⟩) (fun _ h => by cases h) dX1_forcedTo_61
def fM_isNumber  (x0 : Int32) (x1 : Int64) : Bool := if x0 = (1 : Int32) then if (lg_cmp x1 (0 : Int64)) = 0 then true else if (lg_cmp x1 (1 : Int64)) = 0 then true else false else if (lg_cmp (fM_forcedTo x0 x1) x1) = 0 then true else false
set_option maxHeartbeats 4000000 in
set_option maxRecDepth 100000 in
theorem cM_isNumber (l : Launch) (x0 : Int32) (x1 : Int64) : Met l yX1_isNumber wsZ1_isNumber ({ frames := 1, cells := 0, slots := 0, locals := 22 }) (kPs [.int x0, .long x1]) (k2_QcV (.int (bI (fM_isNumber x0 x1)))) 0 0 kNo := by
  refine Met.ofW (cc := cX1_isNumber) (maxL := 3) (ret := (some .boolean)) (by decide) rfl ?_
  intro p e s m args below meth c s₁ B hml hv
  obtain rfl : args = ([.int x0, .long x1] : List Value).toArray := hv
  have hx := B.exec
  have hb := B.bytes
  have hr := B.returns
  have hts := atoms_spec (ws := wsZ1_isNumber) B.pre
  have hown : s.vm.findClass RX1 = some m.cls := findClass_of_methodNamed B.named
  have hlocks := B.notSynchronized
  have hl := lv_entry ([.int x0, .long x1]) (n := 3) (Nat.le_of_ble_eq_true rfl)
  rw [lg_entry_eq]
  generalize (lg_sl ([.int x0, .long x1]) ++ List.replicate (3 - (lg_sl ([.int x0, .long x1])).length) Slot.unset).toArray = ls at hl ⊢
  have hl : lv_has ls 3 [(0, .int x0), (1, .long x1)] := hl
  refine lv_iload_n hx hb dX1_isNumber_0 rfl (lv_at hl 0 rfl) ?_
  refine lv_iconst (v := 1) hx hb dX1_isNumber_1 (by decide) ?_
  refine lv_icmp_ne (tgt := 25) hx hb dX1_isNumber_2 (by decide) (fun c2 => ?_) (fun c2 => ?_)
  · refine lv_iload_n hx hb dX1_isNumber_25 rfl (lv_at hl 0 rfl) ?_
    refine lv_lload_n hx hb dX1_isNumber_26 rfl (lv_at hl 1 rfl) ?_
    refine kc_S [.int x0, .long x1] [] ⟨hx, hb, hml, hown, hts⟩ (cM_forcedTo l x0 x1) (cwS 2 hts gZ_isNumber_forcedTo rfl rfl rfl (by decide +kernel) ⟨(Nat.le_of_ble_eq_true rfl), (Nat.le_of_ble_eq_true rfl)⟩) rfl hl.1 rfl (Nat.le_of_ble_eq_true rfl) dX1_isNumber_27 ⟨Nat.zero_le _, Nat.zero_le _⟩ ?_
    refine lv_lload_n hx hb dX1_isNumber_30 rfl (lv_at hl 1 rfl) ?_
    refine W.lcmp hx hb dX1_isNumber_31 ?_
    refine lv_if_ne (tgt := 39) hx hb dX1_isNumber_32 (by decide) (fun c32 => ?_) (fun c32 => ?_)
    · refine lv_iconst (v := 0) hx hb dX1_isNumber_39 (by decide) ?_
      exact W.zret hx hb hr rfl (fun t ht hW => ⟨by rw [fM_isNumber, if_neg c2, if_neg c32] <;> rfl, ht⟩) (fun _ h => by cases h) dX1_isNumber_40
    · refine lv_iconst (v := 1) hx hb dX1_isNumber_35 (by decide) ?_
      refine lv_goto (tgt := 40) hx hb dX1_isNumber_36 (by decide) ?_
      exact W.zret hx hb hr rfl (fun t ht hW => ⟨by rw [fM_isNumber, if_neg c2, if_pos c32] <;> rfl, ht⟩) (fun _ h => by cases h) dX1_isNumber_40
  · refine lv_lload_n hx hb dX1_isNumber_5 rfl (lv_at hl 1 rfl) ?_
    refine lv_lconst (v := 0) hx hb dX1_isNumber_6 (by decide) ?_
    refine W.lcmp hx hb dX1_isNumber_7 ?_
    refine lv_if_eq (tgt := 17) hx hb dX1_isNumber_8 (by decide) (fun c8 => ?_) (fun c8 => ?_)
    · refine lv_iconst (v := 1) hx hb dX1_isNumber_17 (by decide) ?_
      refine lv_goto (tgt := 40) hx hb dX1_isNumber_18 (by decide) ?_
      exact W.zret hx hb hr rfl (fun t ht hW => ⟨by rw [fM_isNumber, if_pos c2, if_pos c8] <;> rfl, ht⟩) (fun _ h => by cases h) dX1_isNumber_40
    · refine lv_lload_n hx hb dX1_isNumber_11 rfl (lv_at hl 1 rfl) ?_
      refine lv_lconst (v := 1) hx hb dX1_isNumber_12 (by decide) ?_
      refine W.lcmp hx hb dX1_isNumber_13 ?_
      refine lv_if_ne (tgt := 21) hx hb dX1_isNumber_14 (by decide) (fun c14 => ?_) (fun c14 => ?_)
      · refine lv_iconst (v := 0) hx hb dX1_isNumber_21 (by decide) ?_
        refine lv_goto (tgt := 40) hx hb dX1_isNumber_22 (by decide) ?_
        exact W.zret hx hb hr rfl (fun t ht hW => ⟨by rw [fM_isNumber, if_pos c2, if_neg c8, if_neg c14] <;> rfl, ht⟩) (fun _ h => by cases h) dX1_isNumber_40
      · refine lv_iconst (v := 1) hx hb dX1_isNumber_17 (by decide) ?_
        refine lv_goto (tgt := 40) hx hb dX1_isNumber_18 (by decide) ?_
        exact W.zret hx hb hr rfl (fun t ht hW => ⟨by rw [fM_isNumber, if_pos c2, if_neg c8, if_pos c14] <;> rfl, ht⟩) (fun _ h => by cases h) dX1_isNumber_40
def fM_isKind (nc : Nat) (x1 : Int32) : Bool := if x1 < 0 then false else if ((20 : Int32) + (nI nc)) ≤ x1 then false else true
set_option maxHeartbeats 4000000 in
set_option maxRecDepth 100000 in
theorem cM_isKind (l : Launch) (dC : Nat → ClassId) (dI : Nat → Nat → Nat) (g0 gp gr gm gl gw gn : Nat) (cI : ClassId) (pv : Nat → Int32) (nc : Nat) (tr : Nat → Int32) (tm : Nat → Int32) (tp : Nat → Int32) (mt : Nat) (wv : Nat → Int32) (nw : Nat) (re : Int32) (nm : Nat) (np : Nat → Int32) (kk : Int32) (kn : Int64) (x1 : Int32) : Met l yX1_isKind wsZ1_isKind ({ frames := 0, cells := 0, slots := 0, locals := 0 }) (kPr (dC, dI) vwCl [(cI, .int)] (mW g0 gp gr gm gl gw gn cI pv nc tr tm tp mt wv nw re nm np kk kn) [.ref g0, .int x1]) (k2_QcV (.int (bI (fM_isKind nc x1)))) 0 0 kNo := by
  refine Met.ofW (cc := cX1_isKind) (maxL := 2) (ret := (some .boolean)) (by decide) rfl ?_
  intro p e s m args below meth c s₁ B hml hv
  obtain ⟨rfl, hP, hK⟩ := hv
  have hx := B.exec
  have hb := B.bytes
  have hr := B.returns
  have hts := atoms_spec (ws := wsZ1_isKind) B.pre
  have hown : s.vm.findClass RX1 = some m.cls := findClass_of_methodNamed B.named
  have hlocks := B.notSynchronized
  have hin : ∀ w ∈ u_ws RX1 TX1 13, w ∈ wsZ1_isKind := fun w h => List.mem_cons_of_mem _ (inZ1 w h)
  have hl := lv_entry ([.ref g0, .int x1]) (n := 2) (Nat.le_of_ble_eq_true rfl)
  rw [lg_entry_eq]
  generalize (lg_sl ([.ref g0, .int x1]) ++ List.replicate (2 - (lg_sl ([.ref g0, .int x1])).length) Slot.unset).toArray = ls at hl ⊢
  have hl : lv_has ls 2 [(0, .ref g0), (1, .int x1)] := hl
  refine lv_iload_n hx hb dX1_isKind_0 rfl (lv_at hl 1 rfl) ?_
  refine lv_if_lt (tgt := 19) hx hb dX1_isKind_1 (by decide) (fun c1 => ?_) (fun c1 => ?_)
  · refine lv_iconst (v := 0) hx hb dX1_isKind_19 (by decide) ?_
    exact W.zret hx hb hr rfl (fun t ht hW => ⟨by rw [fM_isKind, if_pos c1] <;> rfl, ht⟩) (fun _ h => by cases h) dX1_isKind_20
  · refine lv_iload_n hx hb dX1_isKind_4 rfl (lv_at hl 1 rfl) ?_
    refine lv_bipush (v := 20) hx hb dX1_isKind_5 (by decide) ?_
    refine lv_aload_n hx hb dX1_isKind_7 rfl (lv_at hl 0 rfl) ?_
    refine va_get (D := (dC, dI)) (ci := 1) (v := .int (nI nc)) (C := RX1) (T := TX1) (N := 13) hx hb hts hin hown hK hP 0 rfl rfl 1 (by decide) (hts _ (List.mem_cons_of_mem _ tk_fl_28)) (fun _ h9 => h9) rfl dX1_isKind_8 ?_
    refine lv_iadd hx hb dX1_isKind_11 ?_
    refine lv_icmp_ge (tgt := 19) hx hb dX1_isKind_12 (by decide) (fun c12 => ?_) (fun c12 => ?_)
    · refine lv_iconst (v := 0) hx hb dX1_isKind_19 (by decide) ?_
      exact W.zret hx hb hr rfl (fun t ht hW => ⟨by rw [fM_isKind, if_neg c1, if_pos c12] <;> rfl, ht⟩) (fun _ h => by cases h) dX1_isKind_20
    · refine lv_iconst (v := 1) hx hb dX1_isKind_15 (by decide) ?_
      refine lv_goto (tgt := 20) hx hb dX1_isKind_16 (by decide) ?_
      exact W.zret hx hb hr rfl (fun t ht hW => ⟨by rw [fM_isKind, if_neg c1, if_neg c12] <;> rfl, ht⟩) (fun _ h => by cases h) dX1_isKind_20
def fM_isType (mt : Nat) (x1 : Int32) : Bool := if x1 < 0 then false else if (nI mt) ≤ x1 then false else true
set_option maxHeartbeats 4000000 in
set_option maxRecDepth 100000 in
theorem cM_isType (l : Launch) (dC : Nat → ClassId) (dI : Nat → Nat → Nat) (g0 gp gr gm gl gw gn : Nat) (cI : ClassId) (pv : Nat → Int32) (nc : Nat) (tr : Nat → Int32) (tm : Nat → Int32) (tp : Nat → Int32) (mt : Nat) (wv : Nat → Int32) (nw : Nat) (re : Int32) (nm : Nat) (np : Nat → Int32) (kk : Int32) (kn : Int64) (x1 : Int32) : Met l yX1_isType wsZ1_isType ({ frames := 0, cells := 0, slots := 0, locals := 0 }) (kPr (dC, dI) vwCl [(cI, .int)] (mW g0 gp gr gm gl gw gn cI pv nc tr tm tp mt wv nw re nm np kk kn) [.ref g0, .int x1]) (k2_QcV (.int (bI (fM_isType mt x1)))) 0 0 kNo := by
  refine Met.ofW (cc := cX1_isType) (maxL := 2) (ret := (some .boolean)) (by decide) rfl ?_
  intro p e s m args below meth c s₁ B hml hv
  obtain ⟨rfl, hP, hK⟩ := hv
  have hx := B.exec
  have hb := B.bytes
  have hr := B.returns
  have hts := atoms_spec (ws := wsZ1_isType) B.pre
  have hown : s.vm.findClass RX1 = some m.cls := findClass_of_methodNamed B.named
  have hlocks := B.notSynchronized
  have hin : ∀ w ∈ u_ws RX1 TX1 13, w ∈ wsZ1_isType := fun w h => List.mem_cons_of_mem _ (inZ1 w h)
  have hl := lv_entry ([.ref g0, .int x1]) (n := 2) (Nat.le_of_ble_eq_true rfl)
  rw [lg_entry_eq]
  generalize (lg_sl ([.ref g0, .int x1]) ++ List.replicate (2 - (lg_sl ([.ref g0, .int x1])).length) Slot.unset).toArray = ls at hl ⊢
  have hl : lv_has ls 2 [(0, .ref g0), (1, .int x1)] := hl
  refine lv_iload_n hx hb dX1_isType_0 rfl (lv_at hl 1 rfl) ?_
  refine lv_if_lt (tgt := 16) hx hb dX1_isType_1 (by decide) (fun c1 => ?_) (fun c1 => ?_)
  · refine lv_iconst (v := 0) hx hb dX1_isType_16 (by decide) ?_
    exact W.zret hx hb hr rfl (fun t ht hW => ⟨by rw [fM_isType, if_pos c1] <;> rfl, ht⟩) (fun _ h => by cases h) dX1_isType_17
  · refine lv_iload_n hx hb dX1_isType_4 rfl (lv_at hl 1 rfl) ?_
    refine lv_aload_n hx hb dX1_isType_5 rfl (lv_at hl 0 rfl) ?_
    refine va_get (D := (dC, dI)) (ci := 1) (v := .int (nI mt)) (C := RX1) (T := TX1) (N := 13) hx hb hts hin hown hK hP 0 rfl rfl 5 (by decide) (hts _ (List.mem_cons_of_mem _ tk_fl_51)) (fun _ h9 => h9) rfl dX1_isType_6 ?_
    refine lv_icmp_ge (tgt := 16) hx hb dX1_isType_9 (by decide) (fun c9 => ?_) (fun c9 => ?_)
    · refine lv_iconst (v := 0) hx hb dX1_isType_16 (by decide) ?_
      exact W.zret hx hb hr rfl (fun t ht hW => ⟨by rw [fM_isType, if_neg c1, if_pos c9] <;> rfl, ht⟩) (fun _ h => by cases h) dX1_isType_17
    · refine lv_iconst (v := 1) hx hb dX1_isType_12 (by decide) ?_
      refine lv_goto (tgt := 17) hx hb dX1_isType_13 (by decide) ?_
      exact W.zret hx hb hr rfl (fun t ht hW => ⟨by rw [fM_isType, if_neg c1, if_neg c9] <;> rfl, ht⟩) (fun _ h => by cases h) dX1_isType_17
def fM_isObject (nc : Nat) (x1 : Int32) : Bool := if (bI (fM_isKind nc x1)) = 0 then false else if x1 ≤ (8 : Int32) then false else true
set_option maxHeartbeats 4000000 in
set_option maxRecDepth 100000 in
theorem cM_isObject (l : Launch) (dC : Nat → ClassId) (dI : Nat → Nat → Nat) (g0 gp gr gm gl gw gn : Nat) (cI : ClassId) (pv : Nat → Int32) (nc : Nat) (tr : Nat → Int32) (tm : Nat → Int32) (tp : Nat → Int32) (mt : Nat) (wv : Nat → Int32) (nw : Nat) (re : Int32) (nm : Nat) (np : Nat → Int32) (kk : Int32) (kn : Int64) (x1 : Int32) : Met l yX1_isObject wsZ1_isObject ({ frames := 1, cells := 0, slots := 0, locals := 21 }) (kPr (dC, dI) vwCl [(cI, .int)] (mW g0 gp gr gm gl gw gn cI pv nc tr tm tp mt wv nw re nm np kk kn) [.ref g0, .int x1]) (k2_QcV (.int (bI (fM_isObject nc x1)))) 0 0 kNo := by
  refine Met.ofW (cc := cX1_isObject) (maxL := 2) (ret := (some .boolean)) (by decide) rfl ?_
  intro p e s m args below meth c s₁ B hml hv
  obtain ⟨rfl, hP, hK⟩ := hv
  have hx := B.exec
  have hb := B.bytes
  have hr := B.returns
  have hts := atoms_spec (ws := wsZ1_isObject) B.pre
  have hown : s.vm.findClass RX1 = some m.cls := findClass_of_methodNamed B.named
  have hlocks := B.notSynchronized
  have hl := lv_entry ([.ref g0, .int x1]) (n := 2) (Nat.le_of_ble_eq_true rfl)
  rw [lg_entry_eq]
  generalize (lg_sl ([.ref g0, .int x1]) ++ List.replicate (2 - (lg_sl ([.ref g0, .int x1])).length) Slot.unset).toArray = ls at hl ⊢
  have hl : lv_has ls 2 [(0, .ref g0), (1, .int x1)] := hl
  refine lv_aload_n hx hb dX1_isObject_0 rfl (lv_at hl 0 rfl) ?_
  refine lv_iload_n hx hb dX1_isObject_1 rfl (lv_at hl 1 rfl) ?_
  refine kc_R [.int x1] [] ⟨hx, hb, hml, hown, hts⟩ (cM_isKind l dC dI g0 gp gr gm gl gw gn cI pv nc tr tm tp mt wv nw re nm np kk kn x1) (cwV 1 hts gZ_isObject_isKind rfl rfl rfl (by decide +kernel) ⟨(Nat.le_of_ble_eq_true rfl), (Nat.le_of_ble_eq_true rfl)⟩) hP hK (ci := 1) (q0 := 0) rfl rfl rfl rfl hl.1 rfl (Nat.le_of_ble_eq_true rfl) dX1_isObject_2 ⟨Nat.zero_le _, Nat.zero_le _⟩ ?_
  refine lv_if_eq (tgt := 18) hx hb dX1_isObject_5 (by decide) (fun c5 => ?_) (fun c5 => ?_)
  · refine lv_iconst (v := 0) hx hb dX1_isObject_18 (by decide) ?_
    exact W.zret hx hb hr rfl (fun t ht hW => ⟨by rw [fM_isObject, if_pos c5] <;> rfl, ht⟩) (fun _ h => by cases h) dX1_isObject_19
  · refine lv_iload_n hx hb dX1_isObject_8 rfl (lv_at hl 1 rfl) ?_
    refine lv_bipush (v := 8) hx hb dX1_isObject_9 (by decide) ?_
    refine lv_icmp_le (tgt := 18) hx hb dX1_isObject_11 (by decide) (fun c11 => ?_) (fun c11 => ?_)
    · refine lv_iconst (v := 0) hx hb dX1_isObject_18 (by decide) ?_
      exact W.zret hx hb hr rfl (fun t ht hW => ⟨by rw [fM_isObject, if_neg c5, if_pos c11] <;> rfl, ht⟩) (fun _ h => by cases h) dX1_isObject_19
    · refine lv_iconst (v := 1) hx hb dX1_isObject_14 (by decide) ?_
      refine lv_goto (tgt := 19) hx hb dX1_isObject_15 (by decide) ?_
      exact W.zret hx hb hr rfl (fun t ht hW => ⟨by rw [fM_isObject, if_neg c5, if_neg c11] <;> rfl, ht⟩) (fun _ h => by cases h) dX1_isObject_19
def fM_kind (kk : Int32)  : Int32 := kk
set_option maxHeartbeats 4000000 in
set_option maxRecDepth 100000 in
theorem cM_kind (l : Launch) (dC : Nat → ClassId) (dI : Nat → Nat → Nat) (g0 gp gr gm gl gw gn : Nat) (cI : ClassId) (pv : Nat → Int32) (nc : Nat) (tr : Nat → Int32) (tm : Nat → Int32) (tp : Nat → Int32) (mt : Nat) (wv : Nat → Int32) (nw : Nat) (re : Int32) (nm : Nat) (np : Nat → Int32) (kk : Int32) (kn : Int64) : Met l yX1_kind wsZ1_kind ({ frames := 0, cells := 0, slots := 0, locals := 0 }) (kPr (dC, dI) vwCl [(cI, .int)] (mW g0 gp gr gm gl gw gn cI pv nc tr tm tp mt wv nw re nm np kk kn) [.ref g0]) (k2_QcV (.int (fM_kind kk))) 0 0 kNo := by
  refine Met.ofW (cc := cX1_kind) (maxL := 1) (ret := (some .int)) (by decide) rfl ?_
  intro p e s m args below meth c s₁ B hml hv
  obtain ⟨rfl, hP, hK⟩ := hv
  have hx := B.exec
  have hb := B.bytes
  have hr := B.returns
  have hts := atoms_spec (ws := wsZ1_kind) B.pre
  have hown : s.vm.findClass RX1 = some m.cls := findClass_of_methodNamed B.named
  have hlocks := B.notSynchronized
  have hin : ∀ w ∈ u_ws RX1 TX1 13, w ∈ wsZ1_kind := fun w h => List.mem_cons_of_mem _ (inZ1 w h)
  have hl := lv_entry ([.ref g0]) (n := 1) (Nat.le_of_ble_eq_true rfl)
  rw [lg_entry_eq]
  generalize (lg_sl ([.ref g0]) ++ List.replicate (1 - (lg_sl ([.ref g0])).length) Slot.unset).toArray = ls at hl ⊢
  have hl : lv_has ls 1 [(0, .ref g0)] := hl
  refine lv_aload_n hx hb dX1_kind_0 rfl (lv_at hl 0 rfl) ?_
  refine va_get (D := (dC, dI)) (ci := 1) (v := .int kk) (C := RX1) (T := TX1) (N := 13) hx hb hts hin hown hK hP 0 rfl rfl 11 (by decide) (hts _ (List.mem_cons_of_mem _ tk_fl_75)) (fun _ h9 => h9) rfl dX1_kind_1 ?_
  exact W.iret hx hb hr (fun t ht hW => ⟨by rw [fM_kind] <;> rfl, ht⟩) (fun _ h => by cases h) dX1_kind_4
def fM_number (kn : Int64)  : Int64 := kn
set_option maxHeartbeats 4000000 in
set_option maxRecDepth 100000 in
theorem cM_number (l : Launch) (dC : Nat → ClassId) (dI : Nat → Nat → Nat) (g0 gp gr gm gl gw gn : Nat) (cI : ClassId) (pv : Nat → Int32) (nc : Nat) (tr : Nat → Int32) (tm : Nat → Int32) (tp : Nat → Int32) (mt : Nat) (wv : Nat → Int32) (nw : Nat) (re : Int32) (nm : Nat) (np : Nat → Int32) (kk : Int32) (kn : Int64) : Met l yX1_number wsZ1_number ({ frames := 0, cells := 0, slots := 0, locals := 0 }) (kPr (dC, dI) vwCl [(cI, .int)] (mW g0 gp gr gm gl gw gn cI pv nc tr tm tp mt wv nw re nm np kk kn) [.ref g0]) (k2_QcV (.long (fM_number kn))) 0 0 kNo := by
  refine Met.ofW (cc := cX1_number) (maxL := 1) (ret := (some .long)) (by decide) rfl ?_
  intro p e s m args below meth c s₁ B hml hv
  obtain ⟨rfl, hP, hK⟩ := hv
  have hx := B.exec
  have hb := B.bytes
  have hr := B.returns
  have hts := atoms_spec (ws := wsZ1_number) B.pre
  have hown : s.vm.findClass RX1 = some m.cls := findClass_of_methodNamed B.named
  have hlocks := B.notSynchronized
  have hin : ∀ w ∈ u_ws RX1 TX1 13, w ∈ wsZ1_number := fun w h => List.mem_cons_of_mem _ (inZ1 w h)
  have hl := lv_entry ([.ref g0]) (n := 1) (Nat.le_of_ble_eq_true rfl)
  rw [lg_entry_eq]
  generalize (lg_sl ([.ref g0]) ++ List.replicate (1 - (lg_sl ([.ref g0])).length) Slot.unset).toArray = ls at hl ⊢
  have hl : lv_has ls 1 [(0, .ref g0)] := hl
  refine lv_aload_n hx hb dX1_number_0 rfl (lv_at hl 0 rfl) ?_
  refine va_get (D := (dC, dI)) (ci := 1) (v := .long kn) (C := RX1) (T := TX1) (N := 13) hx hb hts hin hown hK hP 0 rfl rfl 12 (by decide) (hts _ (List.mem_cons_of_mem _ tk_fl_78)) (fun _ h9 => h9) rfl dX1_number_1 ?_
  exact W.lret hx hb hr (fun t ht hW => ⟨by rw [fM_number] <;> rfl, ht⟩) (fun _ h => by cases h) dX1_number_4
def kPV (pv : Nat → Int32) (pr : Nat → Nat) (n : Nat) : Prop := ∀ i, i < n → pv i = nI (pr i)
theorem mK_eq (nc : Nat) (x : Int32) : fM_isKind nc x = fX_isKind (20 + nc) x := by
  unfold fM_isKind fX_isKind
  rw [show (20 : Int32) + nI nc = nI (20 + nc) from nI_add 20 nc]
theorem mT_eq (mt : Nat) (x : Int32) : fM_isType mt x = fX_isType mt x := rfl
theorem mK_in {nc : Nat} {x : Int32} (hn : nc ≤ 12) (h : ¬ bI (fM_isKind nc x) = 0) : vp_in x (20 + nc) := kK_in (by omega) (by rw [mK_eq] at h; exact h)
theorem mT_in {mt : Nat} {x : Int32} (hn : mt ≤ 300) (h : ¬ bI (fM_isType mt x) = 0) : vp_in x mt := kT_in hn (by rw [mT_eq] at h; exact h)
theorem mO_in {nc : Nat} {x : Int32} (hn : nc ≤ 12) (h : ¬ bI (fM_isObject nc x) = 0) : vp_in x (20 + nc) := by
  by_cases c : bI (fM_isKind nc x) = 0
  · exact absurd (by rw [fM_isObject, if_pos c]; rfl) h
  · exact mK_in hn c
theorem mpl_in {nc : Nat} {x : Int32} (h : ¬ bI (fM_isPlain x) = 0) : vp_in (x + 8) (20 + nc) := kpl_in (by omega) h
theorem ref_n {i : Nat} (hi : i < 2 ^ 31) (c : ¬ bI (fM_isReference (nI i)) = 0) : 7 ≤ i := by
  rcases Nat.lt_or_ge i 7 with q | q
  · exact absurd (by rw [fM_isReference, if_pos (show nI i < 7 from nI_lt (b := 7) q (by decide))]; rfl) c
  · exact q
theorem ref_e {i : Nat} (hi : i < 2 ^ 31) (c : bI (fM_isReference (nI i)) = 0) : i < 7 := by
  rcases Nat.lt_or_ge i 7 with q | q
  · exact q
  · have := bI_e0 c
    rw [fM_isReference, if_neg (show ¬ nI i < 7 from nI_nlt (b := 7) q hi)] at this
    cases this
theorem bl0_lo : ∀ i, i < 20 → ∀ j, j < 32 → i ≠ j → i < 7 → bl0 i j = false := by decide +kernel
theorem bl0_lo2 : ∀ i, i < 20 → ∀ j, j < 32 → i ≠ j → j < 7 → bl0 i j = false := by decide +kernel
theorem bl0_7 : ∀ i, i < 20 → 7 ≤ i → bl0 i 7 = true := by decide +kernel
theorem bl0_8 : ∀ i, i < 20 → i ≠ 8 → bl0 i 8 = (decide (i = 10) || decide (i = 11) || decide (i = 13) || decide (i = 14)) := by decide +kernel
theorem bl0_hi : ∀ i, i < 20 → ∀ j, j < 32 → i ≠ j → 9 ≤ j → bl0 i j = false := by decide +kernel
theorem bm_lo {bl : Nat → Nat → Bool} {pr : Nat → Nat} {n : Nat} (h : kBL bl pr n) : ∀ (i j : Nat), i < 20 + n → j < 32 → i ≠ j → j < 7 → bl i j = false := by
  intro i
  induction i using Nat.strongRecOn with
  | ind i ih =>
    intro j hi hj hne h7
    rcases Nat.lt_or_ge i 20 with h1 | h1
    · rw [h.1 i h1 j hj]
      exact bl0_lo2 i h1 j hj hne h7
    · obtain ⟨k, rfl⟩ : ∃ k, i = 20 + k := ⟨i - 20, by omega⟩
      obtain ⟨h2, h3⟩ := h.2 k (by omega)
      rw [h3 j hj, decide_eq_false hne, Bool.false_or]
      exact ih (pr k) (by omega) j (by omega) hj (by omega) h7
theorem bm_lo1 {bl : Nat → Nat → Bool} {pr : Nat → Nat} {n : Nat} (h : kBL bl pr n) (i j : Nat) (_ : i < 20 + n) (hj : j < 32) (hne : i ≠ j) (h7 : i < 7) : bl i j = false := by
  rw [h.1 i (by omega) j hj]
  exact bl0_lo i (by omega) j hj hne h7
theorem bm_7 {bl : Nat → Nat → Bool} {pr : Nat → Nat} {n : Nat} (h : kBL bl pr n) : ∀ (i : Nat), i < 20 + n → 7 ≤ i → bl i 7 = true := by
  intro i
  induction i using Nat.strongRecOn with
  | ind i ih =>
    intro hi h7
    rcases Nat.lt_or_ge i 20 with h1 | h1
    · rw [h.1 i h1 7 (by decide)]
      exact bl0_7 i h1 h7
    · obtain ⟨k, rfl⟩ : ∃ k, i = 20 + k := ⟨i - 20, by omega⟩
      obtain ⟨h2, h3⟩ := h.2 k (by omega)
      rw [h3 7 (by decide), ih (pr k) (by omega) (by omega) (by omega), Bool.or_true]
theorem bm_8 {bl : Nat → Nat → Bool} {pr : Nat → Nat} {n : Nat} (h : kBL bl pr n) : ∀ (i : Nat), i < 20 + n → i ≠ 8 → bl i 8 = (decide (i = 10) || decide (i = 11) || decide (i = 13) || decide (i = 14)) := by
  intro i
  induction i using Nat.strongRecOn with
  | ind i ih =>
    intro hi h8
    rcases Nat.lt_or_ge i 20 with h1 | h1
    · rw [h.1 i h1 8 (by decide)]
      exact bl0_8 i h1 h8
    · obtain ⟨k, rfl⟩ : ∃ k, i = 20 + k := ⟨i - 20, by omega⟩
      obtain ⟨h2, h3⟩ := h.2 k (by omega)
      rw [h3 8 (by decide), ih (pr k) (by omega) (by omega) (by omega), decide_eq_false (by omega : ¬ 20 + k = 8), decide_eq_false (by omega : ¬ 20 + k = 10), decide_eq_false (by omega : ¬ 20 + k = 11), decide_eq_false (by omega : ¬ 20 + k = 13), decide_eq_false (by omega : ¬ 20 + k = 14), decide_eq_false (by omega : ¬ pr k = 10), decide_eq_false (by omega : ¬ pr k = 11), decide_eq_false (by omega : ¬ pr k = 13), decide_eq_false (by omega : ¬ pr k = 14)]
      rfl
theorem kz_sub (k : Nat) : nI (20 + k) - 20 = nI k := by
  rw [show (20 : Int32) = nI 20 from rfl, pk_sub (by omega), Nat.add_sub_cancel_left]
def oI (o : Option Nat) : Int32 := match o with
  | some i => nI i
  | none => -1
theorem ix10 {t k : Nat} : (10 : Int32) * nI t + nI k = nI (10 * t + k) := by
  rw [show (10 : Int32) = nI 10 from rfl, pk_mul, nI_add]

set_option maxHeartbeats 4000000 in
set_option maxRecDepth 100000 in
theorem cM_isBelow (l : Launch) (dC : Nat → ClassId) (dI : Nat → Nat → Nat) (g0 gp gr gm gl gw gn : Nat) (cI : ClassId) (pv : Nat → Int32) (nc : Nat) (tr : Nat → Int32) (tm : Nat → Int32) (tp : Nat → Int32) (mt : Nat) (wv : Nat → Int32) (nw : Nat) (re : Int32) (nm : Nat) (np : Nat → Int32) (kk : Int32) (kn : Int64) (bl : Nat → Nat → Bool) (pr : Nat → Nat) (x1 : Int32) (x2 : Int32) (hPV : kPV pv pr nc) (hBL : kBL bl pr nc) (hnc : nc ≤ 12) (hx1 : vp_in x1 (20 + nc)) (hx2 : vp_in x2 32) : Met l yX1_isBelow wsZ1_isBelow ({ frames := 1, cells := 0, slots := 0, locals := 20 }) (kPr (dC, dI) vwCl [(cI, .int)] (mW g0 gp gr gm gl gw gn cI pv nc tr tm tp mt wv nw re nm np kk kn) [.ref g0, .int x1, .int x2]) (k2_QcV (.int (bI (blI bl x1 x2)))) 0 0 kNo := by
  refine Met.ofW (cc := cX1_isBelow) (maxL := 4) (ret := (some .boolean)) (by decide) rfl ?_
  intro p e s m args below meth c s₁ B hml hv
  obtain ⟨rfl, hP, hK⟩ := hv
  have hx := B.exec
  have hb := B.bytes
  have hr := B.returns
  have hts := atoms_spec (ws := wsZ1_isBelow) B.pre
  have hown : s.vm.findClass RX1 = some m.cls := findClass_of_methodNamed B.named
  have hlocks := B.notSynchronized
  have hin : ∀ w ∈ u_ws RX1 TX1 13, w ∈ wsZ1_isBelow := fun w h => List.mem_cons_of_mem _ (inZ1 w h)
  have hl := lv_entry ([.ref g0, .int x1, .int x2]) (n := 4) (Nat.le_of_ble_eq_true rfl)
  rw [lg_entry_eq]
  generalize (lg_sl ([.ref g0, .int x1, .int x2]) ++ List.replicate (4 - (lg_sl ([.ref g0, .int x1, .int x2])).length) Slot.unset).toArray = ls at hl ⊢
  have hl : lv_has ls 4 [(0, .ref g0), (1, .int x1), (2, .int x2)] := hl
  obtain ⟨i, hi, rfl⟩ := vp_in_of hx1 (by omega)
  obtain ⟨j, hj, rfl⟩ := vp_in_of hx2 (by omega)
  refine lv_iload_n hx hb dX1_isBelow_0 rfl (lv_at hl 1 rfl) ?_
  refine lv_iload_n hx hb dX1_isBelow_1 rfl (lv_at hl 2 rfl) ?_
  refine lv_icmp_ne (tgt := 7) hx hb dX1_isBelow_2 (by decide) (fun c2 => ?_) (fun c2 => ?_)
  · refine lv_iload_n hx hb dX1_isBelow_7 rfl (lv_at hl 1 rfl) ?_
    refine kc_S [.int (nI i)] [] ⟨hx, hb, hml, hown, hts⟩ (cM_isReference l (nI i)) (cwS 1 hts gZ_isBelow_isReference rfl rfl rfl (by decide +kernel) ⟨(Nat.le_of_ble_eq_true rfl), (Nat.le_of_ble_eq_true rfl)⟩) rfl hl.1 rfl (Nat.le_of_ble_eq_true rfl) dX1_isBelow_8 ⟨Nat.zero_le _, Nat.zero_le _⟩ ?_
    refine lv_if_eq (tgt := 21) hx hb dX1_isBelow_11 (by decide) (fun c11 => ?_) (fun c11 => ?_)
    · refine lv_iconst (v := 0) hx hb dX1_isBelow_21 (by decide) ?_
      exact W.zret hx hb hr rfl (fun t ht hW => ⟨by rw [blI_nI bl (by omega) (by omega), bm_lo1 hBL i j (by omega) hj (fun q => c2 (by rw [q])) (ref_e (by omega) c11)] <;> rfl, ht⟩) (fun _ h => by cases h) dX1_isBelow_22
    · refine lv_iload_n hx hb dX1_isBelow_14 rfl (lv_at hl 2 rfl) ?_
      refine kc_S [.int (nI j)] [] ⟨hx, hb, hml, hown, hts⟩ (cM_isReference l (nI j)) (cwS 1 hts gZ_isBelow_isReference rfl rfl rfl (by decide +kernel) ⟨(Nat.le_of_ble_eq_true rfl), (Nat.le_of_ble_eq_true rfl)⟩) rfl hl.1 rfl (Nat.le_of_ble_eq_true rfl) dX1_isBelow_15 ⟨Nat.zero_le _, Nat.zero_le _⟩ ?_
      refine lv_if_ne (tgt := 23) hx hb dX1_isBelow_18 (by decide) (fun c18 => ?_) (fun c18 => ?_)
      · refine lv_iload_n hx hb dX1_isBelow_23 rfl (lv_at hl 2 rfl) ?_
        refine lv_bipush (v := 7) hx hb dX1_isBelow_24 (by decide) ?_
        refine lv_icmp_ne (tgt := 31) hx hb dX1_isBelow_26 (by decide) (fun c26 => ?_) (fun c26 => ?_)
        · refine lv_iload_n hx hb dX1_isBelow_31 rfl (lv_at hl 2 rfl) ?_
          refine lv_bipush (v := 8) hx hb dX1_isBelow_32 (by decide) ?_
          refine lv_icmp_ne (tgt := 67) hx hb dX1_isBelow_34 (by decide) (fun c34 => ?_) (fun c34 => ?_)
          · refine lv_iload_n hx hb dX1_isBelow_67 rfl (lv_at hl 1 rfl) ?_
            refine lv_istore_n (lv' := [(3, .int (nI i)), (0, .ref g0), (1, .int (nI i)), (2, .int (nI j))]) hx hb dX1_isBelow_68 rfl hl (by decide) rfl (fun ls hl => ?_)
            have h7 : 7 ≤ j := ref_n (by omega) c18
            have hj7 : j ≠ 7 := fun q => c26 (by rw [q]; rfl)
            have hj8 : j ≠ 8 := fun q => c34 (by rw [q]; rfl)
            suffices loop : ∀ (n z : Nat), z < n → z < 20 + nc → z ≠ j → bl z j = bl i j → ∀ (ls : Array Slot), lv_has ls 4 [(3, .int (nI z)), (0, .ref g0), (1, .int (nI i)), (2, .int (nI j))] → W p l e (headSpec wsZ1_isBelow ({ frames := 1, cells := 0, slots := 0, locals := 20 })).room s m ([.ref g0, .int (nI i), .int (nI j)] : List Value).toArray below meth c s.heap [] 0 0 (MQ below (k2_QcV (.int (bI (blI bl (nI i) (nI j))))) ([.ref g0, .int (nI i), .int (nI j)] : List Value).toArray s 0 0 kNo) (F0 m 69 ls []) by
              exact loop (i + 1) i (by omega) hi (fun q => c2 (by rw [q])) rfl ls (lv_sub hl [0, 1, 2, 3] rfl)
            intro n
            induction n with
            | zero => intro z hz; omega
            | succ n ih =>
              intro z hz hzn hzj he ls hl
              refine lv_iload_n hx hb dX1_isBelow_69 rfl (lv_at hl 0 rfl) ?_
              refine lv_bipush (v := 20) hx hb dX1_isBelow_70 (by decide) ?_
              refine lv_icmp_lt (tgt := 92) hx hb dX1_isBelow_72 (by decide) (fun c72 => ?_) (fun c72 => ?_)
              · refine lv_iconst (v := 0) hx hb dX1_isBelow_92 (by decide) ?_
                exact W.zret hx hb hr rfl (fun t ht hW => ⟨by rw [blI_nI bl (by omega) (by omega), ← he, hBL.1 z ((nI_ltI (b := 20) (by omega) (by decide)).mp c72) j hj, bl0_hi z ((nI_ltI (b := 20) (by omega) (by decide)).mp c72) j hj hzj (by omega)] <;> rfl, ht⟩) (fun _ h => by cases h) dX1_isBelow_93
              · have hz20 : 20 ≤ z := Nat.not_lt.mp (fun q => c72 (nI_lt (b := 20) q (by decide)))
                obtain ⟨k, rfl⟩ : ∃ k, z = 20 + k := ⟨z - 20, by omega⟩
                obtain ⟨hs1, hs2⟩ := hBL.2 k (by omega)
                refine lv_aload_n hx hb dX1_isBelow_75 rfl (lv_at hl 1 rfl) ?_
                refine va_get (D := (dC, dI)) (ci := 1) (v := .ref gp) (C := RX1) (T := TX1) (N := 13) hx hb hts hin hown hK hP 0 rfl rfl 0 (by decide) (hts _ (List.mem_cons_of_mem _ tk_fl_7)) (fun _ h9 => h9) rfl dX1_isBelow_76 ?_
                refine lv_iload_n hx hb dX1_isBelow_79 rfl (lv_at hl 0 rfl) ?_
                refine lv_bipush (v := 20) hx hb dX1_isBelow_80 (by decide) ?_
                refine lv_isub hx hb dX1_isBelow_82 ?_
                refine kv_topi (y := nI k) (kz_sub k) ?_
                refine va_iald hx hb hK hP 1 0 rfl rfl (vp_in_nI (by omega) (by decide)) dX1_isBelow_83 ?_
                refine kv_topi (y := nI (pr k)) (by rw [nI_clamp (by omega), hPV k (by omega)]) ?_
                refine lv_istore_n (lv' := [(3, .int (nI (pr k))), (0, .ref g0), (1, .int (nI i)), (2, .int (nI j))]) hx hb dX1_isBelow_84 rfl hl (by decide) rfl (fun ls hl => ?_)
                refine lv_iload_n hx hb dX1_isBelow_85 rfl (lv_at hl 0 rfl) ?_
                refine lv_iload_n hx hb dX1_isBelow_86 rfl (lv_at hl 3 rfl) ?_
                refine lv_icmp_ne (tgt := 69) hx hb dX1_isBelow_87 (by decide) (fun c87 => ?_) (fun c87 => ?_)
                · exact ih (pr k) (by omega) (by omega) (fun q => c87 (by rw [q])) (by rw [← he, hs2 j hj, decide_eq_false (by omega), Bool.false_or]) ls (lv_sub hl [0, 1, 2, 3] rfl)
                · refine lv_iconst (v := 1) hx hb dX1_isBelow_90 (by decide) ?_
                  exact W.zret hx hb hr rfl (fun t ht hW => ⟨by rw [blI_nI bl (by omega) (by omega), ← he, hs2 j hj, (nI_eq (by omega) (by omega)).mp c87, kBL_refl hBL hnc (by have := (nI_eq (by omega) (by omega)).mp c87; omega), Bool.or_true] <;> rfl, ht⟩) (fun _ h => by cases h) dX1_isBelow_91
          · refine lv_iload_n hx hb dX1_isBelow_37 rfl (lv_at hl 1 rfl) ?_
            refine lv_bipush (v := 10) hx hb dX1_isBelow_38 (by decide) ?_
            refine lv_icmp_eq (tgt := 61) hx hb dX1_isBelow_40 (by decide) (fun c40 => ?_) (fun c40 => ?_)
            · refine lv_iconst (v := 1) hx hb dX1_isBelow_61 (by decide) ?_
              refine lv_goto (tgt := 66) hx hb dX1_isBelow_62 (by decide) ?_
              exact W.zret hx hb hr rfl (fun t ht hW => ⟨by rw [blI_nI bl (by omega) (by omega), (show j = 8 from (nI_eq (b := 8) (by omega) (by decide)).mp c34), bm_8 hBL i (by omega) (fun q => c2 (by rw [q]; exact c34.symm)), decide_eq_true ((nI_eq (b := 10) (by omega) (by decide)).mp c40)] <;> simp [bI], ht⟩) (fun _ h => by cases h) dX1_isBelow_66
            · refine lv_iload_n hx hb dX1_isBelow_43 rfl (lv_at hl 1 rfl) ?_
              refine lv_bipush (v := 11) hx hb dX1_isBelow_44 (by decide) ?_
              refine lv_icmp_eq (tgt := 61) hx hb dX1_isBelow_46 (by decide) (fun c46 => ?_) (fun c46 => ?_)
              · refine lv_iconst (v := 1) hx hb dX1_isBelow_61 (by decide) ?_
                refine lv_goto (tgt := 66) hx hb dX1_isBelow_62 (by decide) ?_
                exact W.zret hx hb hr rfl (fun t ht hW => ⟨by rw [blI_nI bl (by omega) (by omega), (show j = 8 from (nI_eq (b := 8) (by omega) (by decide)).mp c34), bm_8 hBL i (by omega) (fun q => c2 (by rw [q]; exact c34.symm)), decide_eq_false (fun q : i = 10 => c40 (by rw [q]; rfl)), decide_eq_true ((nI_eq (b := 11) (by omega) (by decide)).mp c46)] <;> simp [bI], ht⟩) (fun _ h => by cases h) dX1_isBelow_66
              · refine lv_iload_n hx hb dX1_isBelow_49 rfl (lv_at hl 1 rfl) ?_
                refine lv_bipush (v := 13) hx hb dX1_isBelow_50 (by decide) ?_
                refine lv_icmp_eq (tgt := 61) hx hb dX1_isBelow_52 (by decide) (fun c52 => ?_) (fun c52 => ?_)
                · refine lv_iconst (v := 1) hx hb dX1_isBelow_61 (by decide) ?_
                  refine lv_goto (tgt := 66) hx hb dX1_isBelow_62 (by decide) ?_
                  exact W.zret hx hb hr rfl (fun t ht hW => ⟨by rw [blI_nI bl (by omega) (by omega), (show j = 8 from (nI_eq (b := 8) (by omega) (by decide)).mp c34), bm_8 hBL i (by omega) (fun q => c2 (by rw [q]; exact c34.symm)), decide_eq_false (fun q : i = 10 => c40 (by rw [q]; rfl)), decide_eq_false (fun q : i = 11 => c46 (by rw [q]; rfl)), decide_eq_true ((nI_eq (b := 13) (by omega) (by decide)).mp c52)] <;> simp [bI], ht⟩) (fun _ h => by cases h) dX1_isBelow_66
                · refine lv_iload_n hx hb dX1_isBelow_55 rfl (lv_at hl 1 rfl) ?_
                  refine lv_bipush (v := 14) hx hb dX1_isBelow_56 (by decide) ?_
                  refine lv_icmp_ne (tgt := 65) hx hb dX1_isBelow_58 (by decide) (fun c58 => ?_) (fun c58 => ?_)
                  · refine lv_iconst (v := 0) hx hb dX1_isBelow_65 (by decide) ?_
                    exact W.zret hx hb hr rfl (fun t ht hW => ⟨by rw [blI_nI bl (by omega) (by omega), (show j = 8 from (nI_eq (b := 8) (by omega) (by decide)).mp c34), bm_8 hBL i (by omega) (fun q => c2 (by rw [q]; exact c34.symm)), decide_eq_false (fun q : i = 10 => c40 (by rw [q]; rfl)), decide_eq_false (fun q : i = 11 => c46 (by rw [q]; rfl)), decide_eq_false (fun q : i = 13 => c52 (by rw [q]; rfl)), decide_eq_false (fun q : i = 14 => c58 (by rw [q]; rfl))] <;> simp [bI], ht⟩) (fun _ h => by cases h) dX1_isBelow_66
                  · refine lv_iconst (v := 1) hx hb dX1_isBelow_61 (by decide) ?_
                    refine lv_goto (tgt := 66) hx hb dX1_isBelow_62 (by decide) ?_
                    exact W.zret hx hb hr rfl (fun t ht hW => ⟨by rw [blI_nI bl (by omega) (by omega), (show j = 8 from (nI_eq (b := 8) (by omega) (by decide)).mp c34), bm_8 hBL i (by omega) (fun q => c2 (by rw [q]; exact c34.symm)), decide_eq_false (fun q : i = 10 => c40 (by rw [q]; rfl)), decide_eq_false (fun q : i = 11 => c46 (by rw [q]; rfl)), decide_eq_false (fun q : i = 13 => c52 (by rw [q]; rfl)), decide_eq_true ((nI_eq (b := 14) (by omega) (by decide)).mp c58)] <;> simp [bI], ht⟩) (fun _ h => by cases h) dX1_isBelow_66
        · refine lv_iconst (v := 1) hx hb dX1_isBelow_29 (by decide) ?_
          exact W.zret hx hb hr rfl (fun t ht hW => ⟨by rw [blI_nI bl (by omega) (by omega), (show j = 7 from (nI_eq (b := 7) (by omega) (by decide)).mp c26), bm_7 hBL i (by omega) (ref_n (by omega) c11)] <;> rfl, ht⟩) (fun _ h => by cases h) dX1_isBelow_30
      · refine lv_iconst (v := 0) hx hb dX1_isBelow_21 (by decide) ?_
        exact W.zret hx hb hr rfl (fun t ht hW => ⟨by rw [blI_nI bl (by omega) (by omega), bm_lo hBL i j (by omega) hj (fun q => c2 (by rw [q])) (ref_e (by omega) c18)] <;> rfl, ht⟩) (fun _ h => by cases h) dX1_isBelow_22
  · refine lv_iconst (v := 1) hx hb dX1_isBelow_5 (by decide) ?_
    exact W.zret hx hb hr rfl (fun t ht hW => ⟨by rw [c2, blI_nI bl (by omega) (by omega), kBL_refl hBL hnc (by have := (nI_eq (by omega) (by omega)).mp c2; omega)] <;> rfl, ht⟩) (fun _ h => by cases h) dX1_isBelow_6
def fM_mayPass (bl : Nat → Nat → Bool) (x1 : Int32) (x2 : Int32) (x3 : Bool) (x4 : Bool) : Bool := if x1 = x2 then true else if x1 = 0 then x4 else if x2 = 0 then x4 else if (bI (fM_isPlain x1)) = 0 then if (bI (fM_isPlain x1)) = 0 then if (bI (fM_isReference x2)) = 0 then if x1 = (7 : Int32) then true else if x1 = (8 : Int32) then if (bI x3) = 0 then if x2 = (2 : Int32) then true else if x2 = (3 : Int32) then true else if x2 = (5 : Int32) then true else if x2 = (6 : Int32) then true else false else true else if (bI (fM_isBox x1)) = 0 then false else if (bI x3) = 0 then if (bI (fM_widens (x1 - (8 : Int32)) x2)) = 0 then false else true else true else true else (blI bl (x1 + (8 : Int32)) x2) else if (bI (fM_isPlain x2)) = 0 then if (bI (fM_isPlain x1)) = 0 then if (bI (fM_isReference x2)) = 0 then if x1 = (7 : Int32) then true else if x1 = (8 : Int32) then if (bI x3) = 0 then if x2 = (2 : Int32) then true else if x2 = (3 : Int32) then true else if x2 = (5 : Int32) then true else if x2 = (6 : Int32) then true else false else true else if (bI (fM_isBox x1)) = 0 then false else if (bI x3) = 0 then if (bI (fM_widens (x1 - (8 : Int32)) x2)) = 0 then false else true else true else true else (blI bl (x1 + (8 : Int32)) x2) else if (bI x3) = 0 then if (bI (fM_widens x1 x2)) = 0 then false else true else true
set_option maxHeartbeats 4000000 in
set_option maxRecDepth 100000 in
theorem cM_mayPass (l : Launch) (dC : Nat → ClassId) (dI : Nat → Nat → Nat) (g0 gp gr gm gl gw gn : Nat) (cI : ClassId) (pv : Nat → Int32) (nc : Nat) (tr : Nat → Int32) (tm : Nat → Int32) (tp : Nat → Int32) (mt : Nat) (wv : Nat → Int32) (nw : Nat) (re : Int32) (nm : Nat) (np : Nat → Int32) (kk : Int32) (kn : Int64) (bl : Nat → Nat → Bool) (pr : Nat → Nat) (x1 : Int32) (x2 : Int32) (x3 : Bool) (x4 : Bool) (hPV : kPV pv pr nc) (hBL : kBL bl pr nc) (hnc : nc ≤ 12) (hx2 : vp_in x2 32) : Met l yX1_mayPass wsZ1_mayPass ({ frames := 2, cells := 0, slots := 0, locals := 43 }) (kPr (dC, dI) vwCl [(cI, .int)] (mW g0 gp gr gm gl gw gn cI pv nc tr tm tp mt wv nw re nm np kk kn) [.ref g0, .int x1, .int x2, .int (bI x3), .int (bI x4)]) (k2_QcV (.int (bI (fM_mayPass bl x1 x2 x3 x4)))) 0 0 kNo := by
  refine Met.ofW (cc := cX1_mayPass) (maxL := 5) (ret := (some .boolean)) (by decide) rfl ?_
  intro p e s m args below meth c s₁ B hml hv
  obtain ⟨rfl, hP, hK⟩ := hv
  have hx := B.exec
  have hb := B.bytes
  have hr := B.returns
  have hts := atoms_spec (ws := wsZ1_mayPass) B.pre
  have hown : s.vm.findClass RX1 = some m.cls := findClass_of_methodNamed B.named
  have hlocks := B.notSynchronized
  have hl := lv_entry ([.ref g0, .int x1, .int x2, .int (bI x3), .int (bI x4)]) (n := 5) (Nat.le_of_ble_eq_true rfl)
  rw [lg_entry_eq]
  generalize (lg_sl ([.ref g0, .int x1, .int x2, .int (bI x3), .int (bI x4)]) ++ List.replicate (5 - (lg_sl ([.ref g0, .int x1, .int x2, .int (bI x3), .int (bI x4)])).length) Slot.unset).toArray = ls at hl ⊢
  have hl : lv_has ls 5 [(0, .ref g0), (1, .int x1), (2, .int x2), (3, .int (bI x3)), (4, .int (bI x4))] := hl
  refine lv_iload_n hx hb dX1_mayPass_0 rfl (lv_at hl 1 rfl) ?_
  refine lv_iload_n hx hb dX1_mayPass_1 rfl (lv_at hl 2 rfl) ?_
  refine lv_icmp_ne (tgt := 7) hx hb dX1_mayPass_2 (by decide) (fun c2 => ?_) (fun c2 => ?_)
  · refine lv_iload_n hx hb dX1_mayPass_7 rfl (lv_at hl 1 rfl) ?_
    refine lv_if_eq (tgt := 15) hx hb dX1_mayPass_8 (by decide) (fun c8 => ?_) (fun c8 => ?_)
    · refine lv_iload hx hb dX1_mayPass_15 (lv_at hl 4 rfl) ?_
      exact W.zret hx hb hr (bI_nar x4) (fun t ht hW => ⟨by rw [fM_mayPass, if_neg c2, if_pos c8] <;> rfl, ht⟩) (fun _ h => by cases h) dX1_mayPass_17
    · refine lv_iload_n hx hb dX1_mayPass_11 rfl (lv_at hl 2 rfl) ?_
      refine lv_if_ne (tgt := 18) hx hb dX1_mayPass_12 (by decide) (fun c12 => ?_) (fun c12 => ?_)
      · refine lv_iload_n hx hb dX1_mayPass_18 rfl (lv_at hl 1 rfl) ?_
        refine kc_S [.int x1] [] ⟨hx, hb, hml, hown, hts⟩ (cM_isPlain l x1) (cwS 1 hts gZ_mayPass_isPlain rfl rfl rfl (by decide +kernel) ⟨(Nat.le_of_ble_eq_true rfl), (Nat.le_of_ble_eq_true rfl)⟩) rfl hl.1 rfl (Nat.le_of_ble_eq_true rfl) dX1_mayPass_19 ⟨Nat.zero_le _, Nat.zero_le _⟩ ?_
        refine lv_if_eq (tgt := 50) hx hb dX1_mayPass_22 (by decide) (fun c22 => ?_) (fun c22 => ?_)
        · refine lv_iload_n hx hb dX1_mayPass_50 rfl (lv_at hl 1 rfl) ?_
          refine kc_S [.int x1] [] ⟨hx, hb, hml, hown, hts⟩ (cM_isPlain l x1) (cwS 1 hts gZ_mayPass_isPlain rfl rfl rfl (by decide +kernel) ⟨(Nat.le_of_ble_eq_true rfl), (Nat.le_of_ble_eq_true rfl)⟩) rfl hl.1 rfl (Nat.le_of_ble_eq_true rfl) dX1_mayPass_51 ⟨Nat.zero_le _, Nat.zero_le _⟩ ?_
          refine lv_if_eq (tgt := 67) hx hb dX1_mayPass_54 (by decide) (fun c54 => ?_) (fun c54 => ?_)
          · refine lv_iload_n hx hb dX1_mayPass_67 rfl (lv_at hl 2 rfl) ?_
            refine kc_S [.int x2] [] ⟨hx, hb, hml, hown, hts⟩ (cM_isReference l x2) (cwS 1 hts gZ_mayPass_isReference rfl rfl rfl (by decide +kernel) ⟨(Nat.le_of_ble_eq_true rfl), (Nat.le_of_ble_eq_true rfl)⟩) rfl hl.1 rfl (Nat.le_of_ble_eq_true rfl) dX1_mayPass_68 ⟨Nat.zero_le _, Nat.zero_le _⟩ ?_
            refine lv_if_eq (tgt := 76) hx hb dX1_mayPass_71 (by decide) (fun c71 => ?_) (fun c71 => ?_)
            · refine lv_iload_n hx hb dX1_mayPass_76 rfl (lv_at hl 1 rfl) ?_
              refine lv_bipush (v := 7) hx hb dX1_mayPass_77 (by decide) ?_
              refine lv_icmp_ne (tgt := 84) hx hb dX1_mayPass_79 (by decide) (fun c79 => ?_) (fun c79 => ?_)
              · refine lv_iload_n hx hb dX1_mayPass_84 rfl (lv_at hl 1 rfl) ?_
                refine lv_bipush (v := 8) hx hb dX1_mayPass_85 (by decide) ?_
                refine lv_icmp_ne (tgt := 121) hx hb dX1_mayPass_87 (by decide) (fun c87 => ?_) (fun c87 => ?_)
                · refine lv_iload_n hx hb dX1_mayPass_121 rfl (lv_at hl 1 rfl) ?_
                  refine kc_S [.int x1] [] ⟨hx, hb, hml, hown, hts⟩ (cM_isBox l x1) (cwS 1 hts gZ_mayPass_isBox rfl rfl rfl (by decide +kernel) ⟨(Nat.le_of_ble_eq_true rfl), (Nat.le_of_ble_eq_true rfl)⟩) rfl hl.1 rfl (Nat.le_of_ble_eq_true rfl) dX1_mayPass_122 ⟨Nat.zero_le _, Nat.zero_le _⟩ ?_
                  refine lv_if_eq (tgt := 147) hx hb dX1_mayPass_125 (by decide) (fun c125 => ?_) (fun c125 => ?_)
                  · refine lv_iconst (v := 0) hx hb dX1_mayPass_147 (by decide) ?_
                    exact W.zret hx hb hr rfl (fun t ht hW => ⟨by rw [fM_mayPass, if_neg c2, if_neg c8, if_neg c12, if_pos c22, if_pos c54, if_pos c71, if_neg c79, if_neg c87, if_pos c125] <;> rfl, ht⟩) (fun _ h => by cases h) dX1_mayPass_148
                  · refine lv_iload_n hx hb dX1_mayPass_128 rfl (lv_at hl 3 rfl) ?_
                    refine lv_if_ne (tgt := 143) hx hb dX1_mayPass_129 (by decide) (fun c129 => ?_) (fun c129 => ?_)
                    · refine lv_iconst (v := 1) hx hb dX1_mayPass_143 (by decide) ?_
                      refine lv_goto (tgt := 148) hx hb dX1_mayPass_144 (by decide) ?_
                      exact W.zret hx hb hr rfl (fun t ht hW => ⟨by rw [fM_mayPass, if_neg c2, if_neg c8, if_neg c12, if_pos c22, if_pos c54, if_pos c71, if_neg c79, if_neg c87, if_neg c125, if_neg c129] <;> rfl, ht⟩) (fun _ h => by cases h) dX1_mayPass_148
                    · refine lv_iload_n hx hb dX1_mayPass_132 rfl (lv_at hl 1 rfl) ?_
                      refine lv_bipush (v := 8) hx hb dX1_mayPass_133 (by decide) ?_
                      refine lv_isub hx hb dX1_mayPass_135 ?_
                      refine lv_iload_n hx hb dX1_mayPass_136 rfl (lv_at hl 2 rfl) ?_
                      refine kc_S [.int (x1 - (8 : Int32)), .int x2] [] ⟨hx, hb, hml, hown, hts⟩ (cM_widens l (x1 - (8 : Int32)) x2) (cwS 2 hts gZ_mayPass_widens rfl rfl rfl (by decide +kernel) ⟨(Nat.le_of_ble_eq_true rfl), (Nat.le_of_ble_eq_true rfl)⟩) rfl hl.1 rfl (Nat.le_of_ble_eq_true rfl) dX1_mayPass_137 ⟨Nat.zero_le _, Nat.zero_le _⟩ ?_
                      refine lv_if_eq (tgt := 147) hx hb dX1_mayPass_140 (by decide) (fun c140 => ?_) (fun c140 => ?_)
                      · refine lv_iconst (v := 0) hx hb dX1_mayPass_147 (by decide) ?_
                        exact W.zret hx hb hr rfl (fun t ht hW => ⟨by rw [fM_mayPass, if_neg c2, if_neg c8, if_neg c12, if_pos c22, if_pos c54, if_pos c71, if_neg c79, if_neg c87, if_neg c125, if_pos c129, if_pos c140] <;> rfl, ht⟩) (fun _ h => by cases h) dX1_mayPass_148
                      · refine lv_iconst (v := 1) hx hb dX1_mayPass_143 (by decide) ?_
                        refine lv_goto (tgt := 148) hx hb dX1_mayPass_144 (by decide) ?_
                        exact W.zret hx hb hr rfl (fun t ht hW => ⟨by rw [fM_mayPass, if_neg c2, if_neg c8, if_neg c12, if_pos c22, if_pos c54, if_pos c71, if_neg c79, if_neg c87, if_neg c125, if_pos c129, if_neg c140] <;> rfl, ht⟩) (fun _ h => by cases h) dX1_mayPass_148
                · refine lv_iload_n hx hb dX1_mayPass_90 rfl (lv_at hl 3 rfl) ?_
                  refine lv_if_ne (tgt := 115) hx hb dX1_mayPass_91 (by decide) (fun c91 => ?_) (fun c91 => ?_)
                  · refine lv_iconst (v := 1) hx hb dX1_mayPass_115 (by decide) ?_
                    refine lv_goto (tgt := 120) hx hb dX1_mayPass_116 (by decide) ?_
                    exact W.zret hx hb hr rfl (fun t ht hW => ⟨by rw [fM_mayPass, if_neg c2, if_neg c8, if_neg c12, if_pos c22, if_pos c54, if_pos c71, if_neg c79, if_pos c87, if_neg c91] <;> rfl, ht⟩) (fun _ h => by cases h) dX1_mayPass_120
                  · refine lv_iload_n hx hb dX1_mayPass_94 rfl (lv_at hl 2 rfl) ?_
                    refine lv_iconst (v := 2) hx hb dX1_mayPass_95 (by decide) ?_
                    refine lv_icmp_eq (tgt := 115) hx hb dX1_mayPass_96 (by decide) (fun c96 => ?_) (fun c96 => ?_)
                    · refine lv_iconst (v := 1) hx hb dX1_mayPass_115 (by decide) ?_
                      refine lv_goto (tgt := 120) hx hb dX1_mayPass_116 (by decide) ?_
                      exact W.zret hx hb hr rfl (fun t ht hW => ⟨by rw [fM_mayPass, if_neg c2, if_neg c8, if_neg c12, if_pos c22, if_pos c54, if_pos c71, if_neg c79, if_pos c87, if_pos c91, if_pos c96] <;> rfl, ht⟩) (fun _ h => by cases h) dX1_mayPass_120
                    · refine lv_iload_n hx hb dX1_mayPass_99 rfl (lv_at hl 2 rfl) ?_
                      refine lv_iconst (v := 3) hx hb dX1_mayPass_100 (by decide) ?_
                      refine lv_icmp_eq (tgt := 115) hx hb dX1_mayPass_101 (by decide) (fun c101 => ?_) (fun c101 => ?_)
                      · refine lv_iconst (v := 1) hx hb dX1_mayPass_115 (by decide) ?_
                        refine lv_goto (tgt := 120) hx hb dX1_mayPass_116 (by decide) ?_
                        exact W.zret hx hb hr rfl (fun t ht hW => ⟨by rw [fM_mayPass, if_neg c2, if_neg c8, if_neg c12, if_pos c22, if_pos c54, if_pos c71, if_neg c79, if_pos c87, if_pos c91, if_neg c96, if_pos c101] <;> rfl, ht⟩) (fun _ h => by cases h) dX1_mayPass_120
                      · refine lv_iload_n hx hb dX1_mayPass_104 rfl (lv_at hl 2 rfl) ?_
                        refine lv_iconst (v := 5) hx hb dX1_mayPass_105 (by decide) ?_
                        refine lv_icmp_eq (tgt := 115) hx hb dX1_mayPass_106 (by decide) (fun c106 => ?_) (fun c106 => ?_)
                        · refine lv_iconst (v := 1) hx hb dX1_mayPass_115 (by decide) ?_
                          refine lv_goto (tgt := 120) hx hb dX1_mayPass_116 (by decide) ?_
                          exact W.zret hx hb hr rfl (fun t ht hW => ⟨by rw [fM_mayPass, if_neg c2, if_neg c8, if_neg c12, if_pos c22, if_pos c54, if_pos c71, if_neg c79, if_pos c87, if_pos c91, if_neg c96, if_neg c101, if_pos c106] <;> rfl, ht⟩) (fun _ h => by cases h) dX1_mayPass_120
                        · refine lv_iload_n hx hb dX1_mayPass_109 rfl (lv_at hl 2 rfl) ?_
                          refine lv_bipush (v := 6) hx hb dX1_mayPass_110 (by decide) ?_
                          refine lv_icmp_ne (tgt := 119) hx hb dX1_mayPass_112 (by decide) (fun c112 => ?_) (fun c112 => ?_)
                          · refine lv_iconst (v := 0) hx hb dX1_mayPass_119 (by decide) ?_
                            exact W.zret hx hb hr rfl (fun t ht hW => ⟨by rw [fM_mayPass, if_neg c2, if_neg c8, if_neg c12, if_pos c22, if_pos c54, if_pos c71, if_neg c79, if_pos c87, if_pos c91, if_neg c96, if_neg c101, if_neg c106, if_neg c112] <;> rfl, ht⟩) (fun _ h => by cases h) dX1_mayPass_120
                          · refine lv_iconst (v := 1) hx hb dX1_mayPass_115 (by decide) ?_
                            refine lv_goto (tgt := 120) hx hb dX1_mayPass_116 (by decide) ?_
                            exact W.zret hx hb hr rfl (fun t ht hW => ⟨by rw [fM_mayPass, if_neg c2, if_neg c8, if_neg c12, if_pos c22, if_pos c54, if_pos c71, if_neg c79, if_pos c87, if_pos c91, if_neg c96, if_neg c101, if_neg c106, if_pos c112] <;> rfl, ht⟩) (fun _ h => by cases h) dX1_mayPass_120
              · refine lv_iconst (v := 1) hx hb dX1_mayPass_82 (by decide) ?_
                exact W.zret hx hb hr rfl (fun t ht hW => ⟨by rw [fM_mayPass, if_neg c2, if_neg c8, if_neg c12, if_pos c22, if_pos c54, if_pos c71, if_pos c79] <;> rfl, ht⟩) (fun _ h => by cases h) dX1_mayPass_83
            · refine lv_iconst (v := 1) hx hb dX1_mayPass_74 (by decide) ?_
              exact W.zret hx hb hr rfl (fun t ht hW => ⟨by rw [fM_mayPass, if_neg c2, if_neg c8, if_neg c12, if_pos c22, if_pos c54, if_neg c71] <;> rfl, ht⟩) (fun _ h => by cases h) dX1_mayPass_75
          · refine lv_aload_n hx hb dX1_mayPass_57 rfl (lv_at hl 0 rfl) ?_
            refine lv_iload_n hx hb dX1_mayPass_58 rfl (lv_at hl 1 rfl) ?_
            refine lv_bipush (v := 8) hx hb dX1_mayPass_59 (by decide) ?_
            refine lv_iadd hx hb dX1_mayPass_61 ?_
            refine lv_iload_n hx hb dX1_mayPass_62 rfl (lv_at hl 2 rfl) ?_
            refine kc_R [.int (x1 + (8 : Int32)), .int x2] [] ⟨hx, hb, hml, hown, hts⟩ (cM_isBelow l dC dI g0 gp gr gm gl gw gn cI pv nc tr tm tp mt wv nw re nm np kk kn bl pr (x1 + (8 : Int32)) x2 hPV hBL hnc (mpl_in c54) hx2) (cwV 2 hts gZ_mayPass_isBelow rfl rfl rfl (by decide +kernel) ⟨(Nat.le_of_ble_eq_true rfl), (Nat.le_of_ble_eq_true rfl)⟩) hP hK (ci := 1) (q0 := 0) rfl rfl rfl rfl hl.1 rfl (Nat.le_of_ble_eq_true rfl) dX1_mayPass_63 ⟨Nat.zero_le _, Nat.zero_le _⟩ ?_
            exact W.zret hx hb hr (bI_nar (blI bl (x1 + (8 : Int32)) x2)) (fun t ht hW => ⟨by rw [fM_mayPass, if_neg c2, if_neg c8, if_neg c12, if_pos c22, if_neg c54] <;> rfl, ht⟩) (fun _ h => by cases h) dX1_mayPass_66
        · refine lv_iload_n hx hb dX1_mayPass_25 rfl (lv_at hl 2 rfl) ?_
          refine kc_S [.int x2] [] ⟨hx, hb, hml, hown, hts⟩ (cM_isPlain l x2) (cwS 1 hts gZ_mayPass_isPlain rfl rfl rfl (by decide +kernel) ⟨(Nat.le_of_ble_eq_true rfl), (Nat.le_of_ble_eq_true rfl)⟩) rfl hl.1 rfl (Nat.le_of_ble_eq_true rfl) dX1_mayPass_26 ⟨Nat.zero_le _, Nat.zero_le _⟩ ?_
          refine lv_if_eq (tgt := 50) hx hb dX1_mayPass_29 (by decide) (fun c29 => ?_) (fun c29 => ?_)
          · refine lv_iload_n hx hb dX1_mayPass_50 rfl (lv_at hl 1 rfl) ?_
            refine kc_S [.int x1] [] ⟨hx, hb, hml, hown, hts⟩ (cM_isPlain l x1) (cwS 1 hts gZ_mayPass_isPlain rfl rfl rfl (by decide +kernel) ⟨(Nat.le_of_ble_eq_true rfl), (Nat.le_of_ble_eq_true rfl)⟩) rfl hl.1 rfl (Nat.le_of_ble_eq_true rfl) dX1_mayPass_51 ⟨Nat.zero_le _, Nat.zero_le _⟩ ?_
            refine lv_if_eq (tgt := 67) hx hb dX1_mayPass_54 (by decide) (fun c54 => ?_) (fun c54 => ?_)
            · refine lv_iload_n hx hb dX1_mayPass_67 rfl (lv_at hl 2 rfl) ?_
              refine kc_S [.int x2] [] ⟨hx, hb, hml, hown, hts⟩ (cM_isReference l x2) (cwS 1 hts gZ_mayPass_isReference rfl rfl rfl (by decide +kernel) ⟨(Nat.le_of_ble_eq_true rfl), (Nat.le_of_ble_eq_true rfl)⟩) rfl hl.1 rfl (Nat.le_of_ble_eq_true rfl) dX1_mayPass_68 ⟨Nat.zero_le _, Nat.zero_le _⟩ ?_
              refine lv_if_eq (tgt := 76) hx hb dX1_mayPass_71 (by decide) (fun c71 => ?_) (fun c71 => ?_)
              · refine lv_iload_n hx hb dX1_mayPass_76 rfl (lv_at hl 1 rfl) ?_
                refine lv_bipush (v := 7) hx hb dX1_mayPass_77 (by decide) ?_
                refine lv_icmp_ne (tgt := 84) hx hb dX1_mayPass_79 (by decide) (fun c79 => ?_) (fun c79 => ?_)
                · refine lv_iload_n hx hb dX1_mayPass_84 rfl (lv_at hl 1 rfl) ?_
                  refine lv_bipush (v := 8) hx hb dX1_mayPass_85 (by decide) ?_
                  refine lv_icmp_ne (tgt := 121) hx hb dX1_mayPass_87 (by decide) (fun c87 => ?_) (fun c87 => ?_)
                  · refine lv_iload_n hx hb dX1_mayPass_121 rfl (lv_at hl 1 rfl) ?_
                    refine kc_S [.int x1] [] ⟨hx, hb, hml, hown, hts⟩ (cM_isBox l x1) (cwS 1 hts gZ_mayPass_isBox rfl rfl rfl (by decide +kernel) ⟨(Nat.le_of_ble_eq_true rfl), (Nat.le_of_ble_eq_true rfl)⟩) rfl hl.1 rfl (Nat.le_of_ble_eq_true rfl) dX1_mayPass_122 ⟨Nat.zero_le _, Nat.zero_le _⟩ ?_
                    refine lv_if_eq (tgt := 147) hx hb dX1_mayPass_125 (by decide) (fun c125 => ?_) (fun c125 => ?_)
                    · refine lv_iconst (v := 0) hx hb dX1_mayPass_147 (by decide) ?_
                      exact W.zret hx hb hr rfl (fun t ht hW => ⟨by rw [fM_mayPass, if_neg c2, if_neg c8, if_neg c12, if_neg c22, if_pos c29, if_pos c54, if_pos c71, if_neg c79, if_neg c87, if_pos c125] <;> rfl, ht⟩) (fun _ h => by cases h) dX1_mayPass_148
                    · refine lv_iload_n hx hb dX1_mayPass_128 rfl (lv_at hl 3 rfl) ?_
                      refine lv_if_ne (tgt := 143) hx hb dX1_mayPass_129 (by decide) (fun c129 => ?_) (fun c129 => ?_)
                      · refine lv_iconst (v := 1) hx hb dX1_mayPass_143 (by decide) ?_
                        refine lv_goto (tgt := 148) hx hb dX1_mayPass_144 (by decide) ?_
                        exact W.zret hx hb hr rfl (fun t ht hW => ⟨by rw [fM_mayPass, if_neg c2, if_neg c8, if_neg c12, if_neg c22, if_pos c29, if_pos c54, if_pos c71, if_neg c79, if_neg c87, if_neg c125, if_neg c129] <;> rfl, ht⟩) (fun _ h => by cases h) dX1_mayPass_148
                      · refine lv_iload_n hx hb dX1_mayPass_132 rfl (lv_at hl 1 rfl) ?_
                        refine lv_bipush (v := 8) hx hb dX1_mayPass_133 (by decide) ?_
                        refine lv_isub hx hb dX1_mayPass_135 ?_
                        refine lv_iload_n hx hb dX1_mayPass_136 rfl (lv_at hl 2 rfl) ?_
                        refine kc_S [.int (x1 - (8 : Int32)), .int x2] [] ⟨hx, hb, hml, hown, hts⟩ (cM_widens l (x1 - (8 : Int32)) x2) (cwS 2 hts gZ_mayPass_widens rfl rfl rfl (by decide +kernel) ⟨(Nat.le_of_ble_eq_true rfl), (Nat.le_of_ble_eq_true rfl)⟩) rfl hl.1 rfl (Nat.le_of_ble_eq_true rfl) dX1_mayPass_137 ⟨Nat.zero_le _, Nat.zero_le _⟩ ?_
                        refine lv_if_eq (tgt := 147) hx hb dX1_mayPass_140 (by decide) (fun c140 => ?_) (fun c140 => ?_)
                        · refine lv_iconst (v := 0) hx hb dX1_mayPass_147 (by decide) ?_
                          exact W.zret hx hb hr rfl (fun t ht hW => ⟨by rw [fM_mayPass, if_neg c2, if_neg c8, if_neg c12, if_neg c22, if_pos c29, if_pos c54, if_pos c71, if_neg c79, if_neg c87, if_neg c125, if_pos c129, if_pos c140] <;> rfl, ht⟩) (fun _ h => by cases h) dX1_mayPass_148
                        · refine lv_iconst (v := 1) hx hb dX1_mayPass_143 (by decide) ?_
                          refine lv_goto (tgt := 148) hx hb dX1_mayPass_144 (by decide) ?_
                          exact W.zret hx hb hr rfl (fun t ht hW => ⟨by rw [fM_mayPass, if_neg c2, if_neg c8, if_neg c12, if_neg c22, if_pos c29, if_pos c54, if_pos c71, if_neg c79, if_neg c87, if_neg c125, if_pos c129, if_neg c140] <;> rfl, ht⟩) (fun _ h => by cases h) dX1_mayPass_148
                  · refine lv_iload_n hx hb dX1_mayPass_90 rfl (lv_at hl 3 rfl) ?_
                    refine lv_if_ne (tgt := 115) hx hb dX1_mayPass_91 (by decide) (fun c91 => ?_) (fun c91 => ?_)
                    · refine lv_iconst (v := 1) hx hb dX1_mayPass_115 (by decide) ?_
                      refine lv_goto (tgt := 120) hx hb dX1_mayPass_116 (by decide) ?_
                      exact W.zret hx hb hr rfl (fun t ht hW => ⟨by rw [fM_mayPass, if_neg c2, if_neg c8, if_neg c12, if_neg c22, if_pos c29, if_pos c54, if_pos c71, if_neg c79, if_pos c87, if_neg c91] <;> rfl, ht⟩) (fun _ h => by cases h) dX1_mayPass_120
                    · refine lv_iload_n hx hb dX1_mayPass_94 rfl (lv_at hl 2 rfl) ?_
                      refine lv_iconst (v := 2) hx hb dX1_mayPass_95 (by decide) ?_
                      refine lv_icmp_eq (tgt := 115) hx hb dX1_mayPass_96 (by decide) (fun c96 => ?_) (fun c96 => ?_)
                      · refine lv_iconst (v := 1) hx hb dX1_mayPass_115 (by decide) ?_
                        refine lv_goto (tgt := 120) hx hb dX1_mayPass_116 (by decide) ?_
                        exact W.zret hx hb hr rfl (fun t ht hW => ⟨by rw [fM_mayPass, if_neg c2, if_neg c8, if_neg c12, if_neg c22, if_pos c29, if_pos c54, if_pos c71, if_neg c79, if_pos c87, if_pos c91, if_pos c96] <;> rfl, ht⟩) (fun _ h => by cases h) dX1_mayPass_120
                      · refine lv_iload_n hx hb dX1_mayPass_99 rfl (lv_at hl 2 rfl) ?_
                        refine lv_iconst (v := 3) hx hb dX1_mayPass_100 (by decide) ?_
                        refine lv_icmp_eq (tgt := 115) hx hb dX1_mayPass_101 (by decide) (fun c101 => ?_) (fun c101 => ?_)
                        · refine lv_iconst (v := 1) hx hb dX1_mayPass_115 (by decide) ?_
                          refine lv_goto (tgt := 120) hx hb dX1_mayPass_116 (by decide) ?_
                          exact W.zret hx hb hr rfl (fun t ht hW => ⟨by rw [fM_mayPass, if_neg c2, if_neg c8, if_neg c12, if_neg c22, if_pos c29, if_pos c54, if_pos c71, if_neg c79, if_pos c87, if_pos c91, if_neg c96, if_pos c101] <;> rfl, ht⟩) (fun _ h => by cases h) dX1_mayPass_120
                        · refine lv_iload_n hx hb dX1_mayPass_104 rfl (lv_at hl 2 rfl) ?_
                          refine lv_iconst (v := 5) hx hb dX1_mayPass_105 (by decide) ?_
                          refine lv_icmp_eq (tgt := 115) hx hb dX1_mayPass_106 (by decide) (fun c106 => ?_) (fun c106 => ?_)
                          · refine lv_iconst (v := 1) hx hb dX1_mayPass_115 (by decide) ?_
                            refine lv_goto (tgt := 120) hx hb dX1_mayPass_116 (by decide) ?_
                            exact W.zret hx hb hr rfl (fun t ht hW => ⟨by rw [fM_mayPass, if_neg c2, if_neg c8, if_neg c12, if_neg c22, if_pos c29, if_pos c54, if_pos c71, if_neg c79, if_pos c87, if_pos c91, if_neg c96, if_neg c101, if_pos c106] <;> rfl, ht⟩) (fun _ h => by cases h) dX1_mayPass_120
                          · refine lv_iload_n hx hb dX1_mayPass_109 rfl (lv_at hl 2 rfl) ?_
                            refine lv_bipush (v := 6) hx hb dX1_mayPass_110 (by decide) ?_
                            refine lv_icmp_ne (tgt := 119) hx hb dX1_mayPass_112 (by decide) (fun c112 => ?_) (fun c112 => ?_)
                            · refine lv_iconst (v := 0) hx hb dX1_mayPass_119 (by decide) ?_
                              exact W.zret hx hb hr rfl (fun t ht hW => ⟨by rw [fM_mayPass, if_neg c2, if_neg c8, if_neg c12, if_neg c22, if_pos c29, if_pos c54, if_pos c71, if_neg c79, if_pos c87, if_pos c91, if_neg c96, if_neg c101, if_neg c106, if_neg c112] <;> rfl, ht⟩) (fun _ h => by cases h) dX1_mayPass_120
                            · refine lv_iconst (v := 1) hx hb dX1_mayPass_115 (by decide) ?_
                              refine lv_goto (tgt := 120) hx hb dX1_mayPass_116 (by decide) ?_
                              exact W.zret hx hb hr rfl (fun t ht hW => ⟨by rw [fM_mayPass, if_neg c2, if_neg c8, if_neg c12, if_neg c22, if_pos c29, if_pos c54, if_pos c71, if_neg c79, if_pos c87, if_pos c91, if_neg c96, if_neg c101, if_neg c106, if_pos c112] <;> rfl, ht⟩) (fun _ h => by cases h) dX1_mayPass_120
                · refine lv_iconst (v := 1) hx hb dX1_mayPass_82 (by decide) ?_
                  exact W.zret hx hb hr rfl (fun t ht hW => ⟨by rw [fM_mayPass, if_neg c2, if_neg c8, if_neg c12, if_neg c22, if_pos c29, if_pos c54, if_pos c71, if_pos c79] <;> rfl, ht⟩) (fun _ h => by cases h) dX1_mayPass_83
              · refine lv_iconst (v := 1) hx hb dX1_mayPass_74 (by decide) ?_
                exact W.zret hx hb hr rfl (fun t ht hW => ⟨by rw [fM_mayPass, if_neg c2, if_neg c8, if_neg c12, if_neg c22, if_pos c29, if_pos c54, if_neg c71] <;> rfl, ht⟩) (fun _ h => by cases h) dX1_mayPass_75
            · refine lv_aload_n hx hb dX1_mayPass_57 rfl (lv_at hl 0 rfl) ?_
              refine lv_iload_n hx hb dX1_mayPass_58 rfl (lv_at hl 1 rfl) ?_
              refine lv_bipush (v := 8) hx hb dX1_mayPass_59 (by decide) ?_
              refine lv_iadd hx hb dX1_mayPass_61 ?_
              refine lv_iload_n hx hb dX1_mayPass_62 rfl (lv_at hl 2 rfl) ?_
              refine kc_R [.int (x1 + (8 : Int32)), .int x2] [] ⟨hx, hb, hml, hown, hts⟩ (cM_isBelow l dC dI g0 gp gr gm gl gw gn cI pv nc tr tm tp mt wv nw re nm np kk kn bl pr (x1 + (8 : Int32)) x2 hPV hBL hnc (mpl_in c54) hx2) (cwV 2 hts gZ_mayPass_isBelow rfl rfl rfl (by decide +kernel) ⟨(Nat.le_of_ble_eq_true rfl), (Nat.le_of_ble_eq_true rfl)⟩) hP hK (ci := 1) (q0 := 0) rfl rfl rfl rfl hl.1 rfl (Nat.le_of_ble_eq_true rfl) dX1_mayPass_63 ⟨Nat.zero_le _, Nat.zero_le _⟩ ?_
              exact W.zret hx hb hr (bI_nar (blI bl (x1 + (8 : Int32)) x2)) (fun t ht hW => ⟨by rw [fM_mayPass, if_neg c2, if_neg c8, if_neg c12, if_neg c22, if_pos c29, if_neg c54] <;> rfl, ht⟩) (fun _ h => by cases h) dX1_mayPass_66
          · refine lv_iload_n hx hb dX1_mayPass_32 rfl (lv_at hl 3 rfl) ?_
            refine lv_if_ne (tgt := 44) hx hb dX1_mayPass_33 (by decide) (fun c33 => ?_) (fun c33 => ?_)
            · refine lv_iconst (v := 1) hx hb dX1_mayPass_44 (by decide) ?_
              refine lv_goto (tgt := 49) hx hb dX1_mayPass_45 (by decide) ?_
              exact W.zret hx hb hr rfl (fun t ht hW => ⟨by rw [fM_mayPass, if_neg c2, if_neg c8, if_neg c12, if_neg c22, if_neg c29, if_neg c33] <;> rfl, ht⟩) (fun _ h => by cases h) dX1_mayPass_49
            · refine lv_iload_n hx hb dX1_mayPass_36 rfl (lv_at hl 1 rfl) ?_
              refine lv_iload_n hx hb dX1_mayPass_37 rfl (lv_at hl 2 rfl) ?_
              refine kc_S [.int x1, .int x2] [] ⟨hx, hb, hml, hown, hts⟩ (cM_widens l x1 x2) (cwS 2 hts gZ_mayPass_widens rfl rfl rfl (by decide +kernel) ⟨(Nat.le_of_ble_eq_true rfl), (Nat.le_of_ble_eq_true rfl)⟩) rfl hl.1 rfl (Nat.le_of_ble_eq_true rfl) dX1_mayPass_38 ⟨Nat.zero_le _, Nat.zero_le _⟩ ?_
              refine lv_if_eq (tgt := 48) hx hb dX1_mayPass_41 (by decide) (fun c41 => ?_) (fun c41 => ?_)
              · refine lv_iconst (v := 0) hx hb dX1_mayPass_48 (by decide) ?_
                exact W.zret hx hb hr rfl (fun t ht hW => ⟨by rw [fM_mayPass, if_neg c2, if_neg c8, if_neg c12, if_neg c22, if_neg c29, if_pos c33, if_pos c41] <;> rfl, ht⟩) (fun _ h => by cases h) dX1_mayPass_49
              · refine lv_iconst (v := 1) hx hb dX1_mayPass_44 (by decide) ?_
                refine lv_goto (tgt := 49) hx hb dX1_mayPass_45 (by decide) ?_
                exact W.zret hx hb hr rfl (fun t ht hW => ⟨by rw [fM_mayPass, if_neg c2, if_neg c8, if_neg c12, if_neg c22, if_neg c29, if_pos c33, if_neg c41] <;> rfl, ht⟩) (fun _ h => by cases h) dX1_mayPass_49
      · refine lv_iload hx hb dX1_mayPass_15 (lv_at hl 4 rfl) ?_
        exact W.zret hx hb hr (bI_nar x4) (fun t ht hW => ⟨by rw [fM_mayPass, if_neg c2, if_neg c8, if_pos c12] <;> rfl, ht⟩) (fun _ h => by cases h) dX1_mayPass_17
  · refine lv_iconst (v := 1) hx hb dX1_mayPass_5 (by decide) ?_
    exact W.zret hx hb hr rfl (fun t ht hW => ⟨by rw [fM_mayPass, if_pos c2] <;> rfl, ht⟩) (fun _ h => by cases h) dX1_mayPass_6
def fM_may (nc : Nat) (bl : Nat → Nat → Bool) (x1 : Int32) (x2 : Int32) (x3 : Bool) (x4 : Bool) : Bool := if (bI (fM_isKind nc x1)) = 0 then false else if (bI (fM_isKind nc x2)) = 0 then false else if (bI x4) = 0 then if x1 = 0 then false else if x2 = 0 then false else (fM_mayPass bl x1 x2 x3 x4) else (fM_mayPass bl x1 x2 x3 x4)
set_option maxHeartbeats 4000000 in
set_option maxRecDepth 100000 in
theorem cM_may (l : Launch) (dC : Nat → ClassId) (dI : Nat → Nat → Nat) (g0 gp gr gm gl gw gn : Nat) (cI : ClassId) (pv : Nat → Int32) (nc : Nat) (tr : Nat → Int32) (tm : Nat → Int32) (tp : Nat → Int32) (mt : Nat) (wv : Nat → Int32) (nw : Nat) (re : Int32) (nm : Nat) (np : Nat → Int32) (kk : Int32) (kn : Int64) (bl : Nat → Nat → Bool) (pr : Nat → Nat) (x1 : Int32) (x2 : Int32) (x3 : Bool) (x4 : Bool) (hPV : kPV pv pr nc) (hBL : kBL bl pr nc) (hnc : nc ≤ 12) : Met l yX1_may wsZ1_may ({ frames := 3, cells := 0, slots := 0, locals := 67 }) (kPr (dC, dI) vwCl [(cI, .int)] (mW g0 gp gr gm gl gw gn cI pv nc tr tm tp mt wv nw re nm np kk kn) [.ref g0, .int x1, .int x2, .int (bI x3), .int (bI x4)]) (k2_QcV (.int (bI (fM_may nc bl x1 x2 x3 x4)))) 0 0 kNo := by
  refine Met.ofW (cc := cX1_may) (maxL := 5) (ret := (some .boolean)) (by decide) rfl ?_
  intro p e s m args below meth c s₁ B hml hv
  obtain ⟨rfl, hP, hK⟩ := hv
  have hx := B.exec
  have hb := B.bytes
  have hr := B.returns
  have hts := atoms_spec (ws := wsZ1_may) B.pre
  have hown : s.vm.findClass RX1 = some m.cls := findClass_of_methodNamed B.named
  have hlocks := B.notSynchronized
  have hl := lv_entry ([.ref g0, .int x1, .int x2, .int (bI x3), .int (bI x4)]) (n := 5) (Nat.le_of_ble_eq_true rfl)
  rw [lg_entry_eq]
  generalize (lg_sl ([.ref g0, .int x1, .int x2, .int (bI x3), .int (bI x4)]) ++ List.replicate (5 - (lg_sl ([.ref g0, .int x1, .int x2, .int (bI x3), .int (bI x4)])).length) Slot.unset).toArray = ls at hl ⊢
  have hl : lv_has ls 5 [(0, .ref g0), (1, .int x1), (2, .int x2), (3, .int (bI x3)), (4, .int (bI x4))] := hl
  refine lv_aload_n hx hb dX1_may_0 rfl (lv_at hl 0 rfl) ?_
  refine lv_iload_n hx hb dX1_may_1 rfl (lv_at hl 1 rfl) ?_
  refine kc_R [.int x1] [] ⟨hx, hb, hml, hown, hts⟩ (cM_isKind l dC dI g0 gp gr gm gl gw gn cI pv nc tr tm tp mt wv nw re nm np kk kn x1) (cwV 1 hts gZ_may_isKind rfl rfl rfl (by decide +kernel) ⟨(Nat.le_of_ble_eq_true rfl), (Nat.le_of_ble_eq_true rfl)⟩) hP hK (ci := 1) (q0 := 0) rfl rfl rfl rfl hl.1 rfl (Nat.le_of_ble_eq_true rfl) dX1_may_2 ⟨Nat.zero_le _, Nat.zero_le _⟩ ?_
  refine lv_if_eq (tgt := 29) hx hb dX1_may_5 (by decide) (fun c5 => ?_) (fun c5 => ?_)
  · refine lv_iconst (v := 0) hx hb dX1_may_29 (by decide) ?_
    exact W.zret hx hb hr rfl (fun t ht hW => ⟨by rw [fM_may, if_pos c5] <;> rfl, ht⟩) (fun _ h => by cases h) dX1_may_30
  · refine lv_aload_n hx hb dX1_may_8 rfl (lv_at hl 0 rfl) ?_
    refine lv_iload_n hx hb dX1_may_9 rfl (lv_at hl 2 rfl) ?_
    refine kc_R [.int x2] [] ⟨hx, hb, hml, hown, hts⟩ (cM_isKind l dC dI g0 gp gr gm gl gw gn cI pv nc tr tm tp mt wv nw re nm np kk kn x2) (cwV 1 hts gZ_may_isKind rfl rfl rfl (by decide +kernel) ⟨(Nat.le_of_ble_eq_true rfl), (Nat.le_of_ble_eq_true rfl)⟩) hP hK (ci := 1) (q0 := 0) rfl rfl rfl rfl hl.1 rfl (Nat.le_of_ble_eq_true rfl) dX1_may_10 ⟨Nat.zero_le _, Nat.zero_le _⟩ ?_
    refine lv_if_eq (tgt := 29) hx hb dX1_may_13 (by decide) (fun c13 => ?_) (fun c13 => ?_)
    · refine lv_iconst (v := 0) hx hb dX1_may_29 (by decide) ?_
      exact W.zret hx hb hr rfl (fun t ht hW => ⟨by rw [fM_may, if_neg c5, if_pos c13] <;> rfl, ht⟩) (fun _ h => by cases h) dX1_may_30
    · refine lv_iload hx hb dX1_may_16 (lv_at hl 4 rfl) ?_
      refine lv_if_ne (tgt := 31) hx hb dX1_may_18 (by decide) (fun c18 => ?_) (fun c18 => ?_)
      · refine lv_aload_n hx hb dX1_may_31 rfl (lv_at hl 0 rfl) ?_
        refine lv_iload_n hx hb dX1_may_32 rfl (lv_at hl 1 rfl) ?_
        refine lv_iload_n hx hb dX1_may_33 rfl (lv_at hl 2 rfl) ?_
        refine lv_iload_n hx hb dX1_may_34 rfl (lv_at hl 3 rfl) ?_
        refine lv_iload hx hb dX1_may_35 (lv_at hl 4 rfl) ?_
        refine kc_R [.int x1, .int x2, .int (bI x3), .int (bI x4)] [] ⟨hx, hb, hml, hown, hts⟩ (cM_mayPass l dC dI g0 gp gr gm gl gw gn cI pv nc tr tm tp mt wv nw re nm np kk kn bl pr x1 x2 x3 x4 hPV hBL hnc (vp_in_mono (mK_in hnc c13) (by omega))) (cwV 4 hts gZ_may_mayPass rfl rfl rfl (by decide +kernel) ⟨(Nat.le_of_ble_eq_true rfl), (Nat.le_of_ble_eq_true rfl)⟩) hP hK (ci := 1) (q0 := 0) rfl rfl rfl rfl hl.1 rfl (Nat.le_of_ble_eq_true rfl) dX1_may_37 ⟨Nat.zero_le _, Nat.zero_le _⟩ ?_
        exact W.zret hx hb hr (bI_nar (fM_mayPass bl x1 x2 x3 x4)) (fun t ht hW => ⟨by rw [fM_may, if_neg c5, if_neg c13, if_neg c18] <;> rfl, ht⟩) (fun _ h => by cases h) dX1_may_40
      · refine lv_iload_n hx hb dX1_may_21 rfl (lv_at hl 1 rfl) ?_
        refine lv_if_eq (tgt := 29) hx hb dX1_may_22 (by decide) (fun c22 => ?_) (fun c22 => ?_)
        · refine lv_iconst (v := 0) hx hb dX1_may_29 (by decide) ?_
          exact W.zret hx hb hr rfl (fun t ht hW => ⟨by rw [fM_may, if_neg c5, if_neg c13, if_pos c18, if_pos c22] <;> rfl, ht⟩) (fun _ h => by cases h) dX1_may_30
        · refine lv_iload_n hx hb dX1_may_25 rfl (lv_at hl 2 rfl) ?_
          refine lv_if_ne (tgt := 31) hx hb dX1_may_26 (by decide) (fun c26 => ?_) (fun c26 => ?_)
          · refine lv_aload_n hx hb dX1_may_31 rfl (lv_at hl 0 rfl) ?_
            refine lv_iload_n hx hb dX1_may_32 rfl (lv_at hl 1 rfl) ?_
            refine lv_iload_n hx hb dX1_may_33 rfl (lv_at hl 2 rfl) ?_
            refine lv_iload_n hx hb dX1_may_34 rfl (lv_at hl 3 rfl) ?_
            refine lv_iload hx hb dX1_may_35 (lv_at hl 4 rfl) ?_
            refine kc_R [.int x1, .int x2, .int (bI x3), .int (bI x4)] [] ⟨hx, hb, hml, hown, hts⟩ (cM_mayPass l dC dI g0 gp gr gm gl gw gn cI pv nc tr tm tp mt wv nw re nm np kk kn bl pr x1 x2 x3 x4 hPV hBL hnc (vp_in_mono (mK_in hnc c13) (by omega))) (cwV 4 hts gZ_may_mayPass rfl rfl rfl (by decide +kernel) ⟨(Nat.le_of_ble_eq_true rfl), (Nat.le_of_ble_eq_true rfl)⟩) hP hK (ci := 1) (q0 := 0) rfl rfl rfl rfl hl.1 rfl (Nat.le_of_ble_eq_true rfl) dX1_may_37 ⟨Nat.zero_le _, Nat.zero_le _⟩ ?_
            exact W.zret hx hb hr (bI_nar (fM_mayPass bl x1 x2 x3 x4)) (fun t ht hW => ⟨by rw [fM_may, if_neg c5, if_neg c13, if_pos c18, if_neg c22, if_neg c26] <;> rfl, ht⟩) (fun _ h => by cases h) dX1_may_40
          · refine lv_iconst (v := 0) hx hb dX1_may_29 (by decide) ?_
            exact W.zret hx hb hr rfl (fun t ht hW => ⟨by rw [fM_may, if_neg c5, if_neg c13, if_pos c18, if_neg c22, if_pos c26] <;> rfl, ht⟩) (fun _ h => by cases h) dX1_may_30
def fM_below (nc : Nat) (bl : Nat → Nat → Bool) (x1 : Int32) (x2 : Int32) : Bool := if (bI (fM_isKind nc x1)) = 0 then false else if (bI (fM_isKind nc x2)) = 0 then false else if (bI (blI bl x1 x2)) = 0 then false else true
set_option maxHeartbeats 4000000 in
set_option maxRecDepth 100000 in
theorem cM_below (l : Launch) (dC : Nat → ClassId) (dI : Nat → Nat → Nat) (g0 gp gr gm gl gw gn : Nat) (cI : ClassId) (pv : Nat → Int32) (nc : Nat) (tr : Nat → Int32) (tm : Nat → Int32) (tp : Nat → Int32) (mt : Nat) (wv : Nat → Int32) (nw : Nat) (re : Int32) (nm : Nat) (np : Nat → Int32) (kk : Int32) (kn : Int64) (bl : Nat → Nat → Bool) (pr : Nat → Nat) (x1 : Int32) (x2 : Int32) (hPV : kPV pv pr nc) (hBL : kBL bl pr nc) (hnc : nc ≤ 12) : Met l yX1_below wsZ1_below ({ frames := 2, cells := 0, slots := 0, locals := 43 }) (kPr (dC, dI) vwCl [(cI, .int)] (mW g0 gp gr gm gl gw gn cI pv nc tr tm tp mt wv nw re nm np kk kn) [.ref g0, .int x1, .int x2]) (k2_QcV (.int (bI (fM_below nc bl x1 x2)))) 0 0 kNo := by
  refine Met.ofW (cc := cX1_below) (maxL := 3) (ret := (some .boolean)) (by decide) rfl ?_
  intro p e s m args below meth c s₁ B hml hv
  obtain ⟨rfl, hP, hK⟩ := hv
  have hx := B.exec
  have hb := B.bytes
  have hr := B.returns
  have hts := atoms_spec (ws := wsZ1_below) B.pre
  have hown : s.vm.findClass RX1 = some m.cls := findClass_of_methodNamed B.named
  have hlocks := B.notSynchronized
  have hl := lv_entry ([.ref g0, .int x1, .int x2]) (n := 3) (Nat.le_of_ble_eq_true rfl)
  rw [lg_entry_eq]
  generalize (lg_sl ([.ref g0, .int x1, .int x2]) ++ List.replicate (3 - (lg_sl ([.ref g0, .int x1, .int x2])).length) Slot.unset).toArray = ls at hl ⊢
  have hl : lv_has ls 3 [(0, .ref g0), (1, .int x1), (2, .int x2)] := hl
  refine lv_aload_n hx hb dX1_below_0 rfl (lv_at hl 0 rfl) ?_
  refine lv_iload_n hx hb dX1_below_1 rfl (lv_at hl 1 rfl) ?_
  refine kc_R [.int x1] [] ⟨hx, hb, hml, hown, hts⟩ (cM_isKind l dC dI g0 gp gr gm gl gw gn cI pv nc tr tm tp mt wv nw re nm np kk kn x1) (cwV 1 hts gZ_below_isKind rfl rfl rfl (by decide +kernel) ⟨(Nat.le_of_ble_eq_true rfl), (Nat.le_of_ble_eq_true rfl)⟩) hP hK (ci := 1) (q0 := 0) rfl rfl rfl rfl hl.1 rfl (Nat.le_of_ble_eq_true rfl) dX1_below_2 ⟨Nat.zero_le _, Nat.zero_le _⟩ ?_
  refine lv_if_eq (tgt := 29) hx hb dX1_below_5 (by decide) (fun c5 => ?_) (fun c5 => ?_)
  · refine lv_iconst (v := 0) hx hb dX1_below_29 (by decide) ?_
    exact W.zret hx hb hr rfl (fun t ht hW => ⟨by rw [fM_below, if_pos c5] <;> rfl, ht⟩) (fun _ h => by cases h) dX1_below_30
  · refine lv_aload_n hx hb dX1_below_8 rfl (lv_at hl 0 rfl) ?_
    refine lv_iload_n hx hb dX1_below_9 rfl (lv_at hl 2 rfl) ?_
    refine kc_R [.int x2] [] ⟨hx, hb, hml, hown, hts⟩ (cM_isKind l dC dI g0 gp gr gm gl gw gn cI pv nc tr tm tp mt wv nw re nm np kk kn x2) (cwV 1 hts gZ_below_isKind rfl rfl rfl (by decide +kernel) ⟨(Nat.le_of_ble_eq_true rfl), (Nat.le_of_ble_eq_true rfl)⟩) hP hK (ci := 1) (q0 := 0) rfl rfl rfl rfl hl.1 rfl (Nat.le_of_ble_eq_true rfl) dX1_below_10 ⟨Nat.zero_le _, Nat.zero_le _⟩ ?_
    refine lv_if_eq (tgt := 29) hx hb dX1_below_13 (by decide) (fun c13 => ?_) (fun c13 => ?_)
    · refine lv_iconst (v := 0) hx hb dX1_below_29 (by decide) ?_
      exact W.zret hx hb hr rfl (fun t ht hW => ⟨by rw [fM_below, if_neg c5, if_pos c13] <;> rfl, ht⟩) (fun _ h => by cases h) dX1_below_30
    · refine lv_aload_n hx hb dX1_below_16 rfl (lv_at hl 0 rfl) ?_
      refine lv_iload_n hx hb dX1_below_17 rfl (lv_at hl 1 rfl) ?_
      refine lv_iload_n hx hb dX1_below_18 rfl (lv_at hl 2 rfl) ?_
      refine kc_R [.int x1, .int x2] [] ⟨hx, hb, hml, hown, hts⟩ (cM_isBelow l dC dI g0 gp gr gm gl gw gn cI pv nc tr tm tp mt wv nw re nm np kk kn bl pr x1 x2 hPV hBL hnc (mK_in hnc c5) (vp_in_mono (mK_in hnc c13) (by omega))) (cwV 2 hts gZ_below_isBelow rfl rfl rfl (by decide +kernel) ⟨(Nat.le_of_ble_eq_true rfl), (Nat.le_of_ble_eq_true rfl)⟩) hP hK (ci := 1) (q0 := 0) rfl rfl rfl rfl hl.1 rfl (Nat.le_of_ble_eq_true rfl) dX1_below_19 ⟨Nat.zero_le _, Nat.zero_le _⟩ ?_
      refine lv_if_eq (tgt := 29) hx hb dX1_below_22 (by decide) (fun c22 => ?_) (fun c22 => ?_)
      · refine lv_iconst (v := 0) hx hb dX1_below_29 (by decide) ?_
        exact W.zret hx hb hr rfl (fun t ht hW => ⟨by rw [fM_below, if_neg c5, if_neg c13, if_pos c22] <;> rfl, ht⟩) (fun _ h => by cases h) dX1_below_30
      · refine lv_iconst (v := 1) hx hb dX1_below_25 (by decide) ?_
        refine lv_goto (tgt := 30) hx hb dX1_below_26 (by decide) ?_
        exact W.zret hx hb hr rfl (fun t ht hW => ⟨by rw [fM_below, if_neg c5, if_neg c13, if_neg c22] <;> rfl, ht⟩) (fun _ h => by cases h) dX1_below_30
end
section
def kTM (tm : Nat → Int32) (tM : Nat → Nat) (mt : Nat) : Prop := ∀ i, i < mt → tm i = nI (tM i) ∧ tM i ≤ 10
theorem mmay_in {nc : Nat} {bl : Nat → Nat → Bool} {x y : Int32} {f e : Bool} (hn : nc ≤ 12) (h : ¬ bI (fM_may nc bl x y f e) = 0) : vp_in x (20 + nc) ∧ vp_in y (20 + nc) := by
  by_cases c : bI (fM_isKind nc x) = 0
  · exact absurd (by rw [fM_may, if_pos c]; rfl) h
  · by_cases c2 : bI (fM_isKind nc y) = 0
    · exact absurd (by rw [fM_may, if_neg c, if_pos c2]; rfl) h
    · exact ⟨mK_in hn c, mK_in hn c2⟩
theorem mnw_in {nw : Nat} (hn : nw ≤ 20) (h : ¬ nI nw = 20) : vp_in (nI nw) 20 := vp_in_nI (by
  have : nw ≠ 20 := fun q => h (by rw [q]; rfl)
  omega) (by decide)
theorem mnc_in {nc : Nat} (hn : nc ≤ 12) (h : ¬ nI nc = 12) : vp_in (nI nc) 12 := vp_in_nI (by
  have : nc ≠ 12 := fun q => h (by rw [q]; rfl)
  omega) (by decide)
theorem mnc_r (nc : Nat) : (20 : Int32) + nI (nc + 1) - 1 = nI (20 + nc) := by
  rw [show (20 : Int32) + nI (nc + 1) = nI (20 + nc + 1) from nI_add 20 (nc + 1), nI_pred]
theorem mix_in {mt : Nat} {tm : Nat → Int32} {tM : Nat → Nat} {x1 x2 : Int32} (hmt : mt ≤ 300) (hTM : kTM tm tM mt) (c5 : ¬ bI (fM_isType mt x1) = 0) (c36 : ¬ x2 < 0) (c46 : ¬ tm x1.toNatClampNeg ≤ x2) : vp_in ((10 : Int32) * x1 + x2) 3000 := by
  obtain ⟨i, hi, rfl⟩ := vp_in_of (mT_in hmt c5) (by omega)
  obtain ⟨k, hk, rfl⟩ := nI_of c36
  obtain ⟨e, h10⟩ := hTM i hi
  rw [nI_clamp (by omega), e] at c46
  have : k < tM i := Nat.not_le.mp (fun q => c46 (nI_le q hk))
  rw [ix10]
  exact vp_in_nI (by omega) (by decide)
theorem mall_mono {P : Nat → Bool} {n d : Nat} (hd : d ≤ n) (h : mall P d = false) : mall P n = false := by
  cases hm : mall P n
  · rfl
  · rw [(mall_iff P d).mpr (fun k hk => (mall_iff P n).mp hm k (by omega))] at h
    cases h

set_option maxHeartbeats 4000000 in
set_option maxRecDepth 100000 in
theorem cM_kept (l : Launch) (dC : Nat → ClassId) (dI : Nat → Nat → Nat) (g0 gp gr gm gl gw gn : Nat) (cI : ClassId) (pv : Nat → Int32) (nc : Nat) (tr : Nat → Int32) (tm : Nat → Int32) (tp : Nat → Int32) (mt : Nat) (wv : Nat → Int32) (nw : Nat) (re : Int32) (nm : Nat) (np : Nat → Int32) (kk : Int32) (kn : Int64) (x1 : Int32) (x2 : Int64) : Met l yX1_kept wsZ1_kept ({ frames := 0, cells := 0, slots := 0, locals := 0 }) (kPw (dC, dI) vwCl [(cI, .int)] (mW g0 gp gr gm gl gw gn cI pv nc tr tm tp mt wv nw re nm np kk kn) [.ref g0, .int x1, .long x2]) (kQw (dC, dI) vwCl (some (.int (0 : Int32))) (mW g0 gp gr gm gl gw gn cI pv nc tr tm tp mt wv nw re nm np x1 x2) [g0, gp, gr, gm, gl, gw, gn]) 0 0 (fun q => q ∈ [g0, gp, gr, gm, gl, gw, gn]) := by
  refine Met.ofW (cc := cX1_kept) (maxL := 4) (ret := (some .int)) (by decide) rfl ?_
  intro p e s m args below meth c s₁ B hml hv
  obtain ⟨rfl, hP, hK, hD0⟩ := hv
  have hx := B.exec
  have hb := B.bytes
  have hr := B.returns
  have hts := atoms_spec (ws := wsZ1_kept) B.pre
  have hown : s.vm.findClass RX1 = some m.cls := findClass_of_methodNamed B.named
  have hlocks := B.notSynchronized
  have hin : ∀ w ∈ u_ws RX1 TX1 13, w ∈ wsZ1_kept := fun w h => List.mem_cons_of_mem _ (inZ1 w h)
  have hD : va_D (fun q => q ∈ [g0, gp, gr, gm, gl, gw, gn]) (mW g0 gp gr gm gl gw gn cI pv nc tr tm tp mt wv nw re nm np kk kn) := kD_self hD0 rfl
  have hS : va_S (fun q => q ∈ [g0, gp, gr, gm, gl, gw, gn]) s.heap s.heap [] := va_S.rf
  have hl := lv_entry ([.ref g0, .int x1, .long x2]) (n := 4) (Nat.le_of_ble_eq_true rfl)
  rw [lg_entry_eq]
  generalize (lg_sl ([.ref g0, .int x1, .long x2]) ++ List.replicate (4 - (lg_sl ([.ref g0, .int x1, .long x2])).length) Slot.unset).toArray = ls at hl ⊢
  have hl : lv_has ls 4 [(0, .ref g0), (1, .int x1), (2, .long x2)] := hl
  refine lv_aload_n hx hb dX1_kept_0 rfl (lv_at hl 0 rfl) ?_
  refine lv_iload_n hx hb dX1_kept_1 rfl (lv_at hl 1 rfl) ?_
  refine va_put (D := (dC, dI)) (ci := 1) (v := .int x1) (ty := .int) (C := RX1) (T := TX1) (N := 13) hx hb hts hin tyX1 tyX1_ok nmX1 hown hK hP hD hS 0 rfl rfl 11 (by decide) (hts _ (List.mem_cons_of_mem _ tk_fl_75)) (fun _ h9 => h9) rfl (by decide +kernel) rfl rfl (Nat.le_of_ble_eq_true rfl) dX1_kept_2 (fun H locs hP hD hS => ?_)
  have hP : va_P (dC, dI) vwCl (mW g0 gp gr gm gl gw gn cI pv nc tr tm tp mt wv nw re nm np x1 kn) H := hP
  have hD : va_D _ (mW g0 gp gr gm gl gw gn cI pv nc tr tm tp mt wv nw re nm np x1 kn) := hD
  refine lv_aload_n hx hb dX1_kept_5 rfl (lv_at hl 0 rfl) ?_
  refine lv_lload_n hx hb dX1_kept_6 rfl (lv_at hl 2 rfl) ?_
  refine va_put (D := (dC, dI)) (ci := 1) (v := .long x2) (ty := .long) (C := RX1) (T := TX1) (N := 13) hx hb hts hin tyX1 tyX1_ok nmX1 hown hK hP hD hS 0 rfl rfl 12 (by decide) (hts _ (List.mem_cons_of_mem _ tk_fl_78)) (fun _ h9 => h9) rfl (by decide +kernel) rfl rfl (Nat.le_of_ble_eq_true rfl) dX1_kept_7 (fun H locs hP hD hS => ?_)
  have hP : va_P (dC, dI) vwCl (mW g0 gp gr gm gl gw gn cI pv nc tr tm tp mt wv nw re nm np x1 x2) H := hP
  have hD : va_D _ (mW g0 gp gr gm gl gw gn cI pv nc tr tm tp mt wv nw re nm np x1 x2) := hD
  refine lv_iconst (v := 0) hx hb dX1_kept_10 (by decide) ?_
  exact W.iret hx hb hr (fun t ht hW => ⟨rfl, by rw [ht]; exact hP, hS.F ht⟩) hS.2.2 dX1_kept_11
def fM_pass (nc : Nat) (kk : Int32) (kn : Int64) (bl : Nat → Nat → Bool) (x1 : Int32) (x2 : Int32) (x3 : Bool) (x4 : Int32) (x5 : Int64) : Int32 × Int32 × Int64 := if (bI (fM_may nc bl x1 x2 x3 false)) = 0 then ((-1 : Int32), kk, kn) else if (bI (fM_isPlain x1)) = 0 then if x4 = 0 then if (bI (fM_isReference x2)) = 0 then if (bI x3) = 0 then if x1 = x2 then ((0 : Int32), (0 : Int32), (0 : Int64)) else ((1 : Int32), kk, kn) else ((0 : Int32), (0 : Int32), (0 : Int64)) else ((0 : Int32), (0 : Int32), (0 : Int64)) else if (bI (fM_isObject nc x4)) = 0 then ((-1 : Int32), kk, kn) else if (bI (blI bl x4 x1)) = 0 then ((-1 : Int32), kk, kn) else if (bI (fM_isBox x4)) = 0 then if (bI (fM_isReference x2)) = 0 then if (bI (fM_isBox x4)) = 0 then ((2 : Int32), kk, kn) else if (bI x3) = 0 then if (bI (fM_widens (x4 - (8 : Int32)) x2)) = 0 then ((2 : Int32), kk, kn) else if (bI x3) = 0 then ((0 : Int32), (0 : Int32), x5) else ((0 : Int32), (0 : Int32), (fM_forcedTo x2 x5)) else if (bI x3) = 0 then ((0 : Int32), (0 : Int32), x5) else ((0 : Int32), (0 : Int32), (fM_forcedTo x2 x5)) else if (bI (blI bl x4 x2)) = 0 then ((2 : Int32), kk, kn) else ((0 : Int32), x4, x5) else if (bI (fM_isNumber (x4 - (8 : Int32)) x5)) = 0 then ((-1 : Int32), kk, kn) else if (bI (fM_isReference x2)) = 0 then if (bI (fM_isBox x4)) = 0 then ((2 : Int32), kk, kn) else if (bI x3) = 0 then if (bI (fM_widens (x4 - (8 : Int32)) x2)) = 0 then ((2 : Int32), kk, kn) else if (bI x3) = 0 then ((0 : Int32), (0 : Int32), x5) else ((0 : Int32), (0 : Int32), (fM_forcedTo x2 x5)) else if (bI x3) = 0 then ((0 : Int32), (0 : Int32), x5) else ((0 : Int32), (0 : Int32), (fM_forcedTo x2 x5)) else if (bI (blI bl x4 x2)) = 0 then ((2 : Int32), kk, kn) else ((0 : Int32), x4, x5) else if (bI (fM_isNumber x1 x5)) = 0 then ((-1 : Int32), kk, kn) else if (bI (fM_isPlain x2)) = 0 then ((0 : Int32), (x1 + (8 : Int32)), x5) else if (bI x3) = 0 then ((0 : Int32), (0 : Int32), x5) else ((0 : Int32), (0 : Int32), (fM_forcedTo x2 x5))
set_option maxHeartbeats 4000000 in
set_option maxRecDepth 100000 in
theorem cM_pass (l : Launch) (dC : Nat → ClassId) (dI : Nat → Nat → Nat) (g0 gp gr gm gl gw gn : Nat) (cI : ClassId) (pv : Nat → Int32) (nc : Nat) (tr : Nat → Int32) (tm : Nat → Int32) (tp : Nat → Int32) (mt : Nat) (wv : Nat → Int32) (nw : Nat) (re : Int32) (nm : Nat) (np : Nat → Int32) (kk : Int32) (kn : Int64) (bl : Nat → Nat → Bool) (pr : Nat → Nat) (x1 : Int32) (x2 : Int32) (x3 : Bool) (x4 : Int32) (x5 : Int64) (hPV : kPV pv pr nc) (hBL : kBL bl pr nc) (hnc : nc ≤ 12) : Met l yX1_pass wsZ1_pass ({ frames := 4, cells := 0, slots := 0, locals := 91 }) (kPw (dC, dI) vwCl [(cI, .int)] (mW g0 gp gr gm gl gw gn cI pv nc tr tm tp mt wv nw re nm np kk kn) [.ref g0, .int x1, .int x2, .int (bI x3), .int x4, .long x5]) (kQw (dC, dI) vwCl (some (.int ((fM_pass nc kk kn bl x1 x2 x3 x4 x5).1))) (mW g0 gp gr gm gl gw gn cI pv nc tr tm tp mt wv nw re nm np ((fM_pass nc kk kn bl x1 x2 x3 x4 x5).2.1) ((fM_pass nc kk kn bl x1 x2 x3 x4 x5).2.2)) [g0, gp, gr, gm, gl, gw, gn]) 0 0 (fun q => q ∈ [g0, gp, gr, gm, gl, gw, gn]) := by
  refine Met.ofW (cc := cX1_pass) (maxL := 7) (ret := (some .int)) (by decide) rfl ?_
  intro p e s m args below meth c s₁ B hml hv
  obtain ⟨rfl, hP, hK, hD0⟩ := hv
  have hx := B.exec
  have hb := B.bytes
  have hr := B.returns
  have hts := atoms_spec (ws := wsZ1_pass) B.pre
  have hown : s.vm.findClass RX1 = some m.cls := findClass_of_methodNamed B.named
  have hlocks := B.notSynchronized
  have hD : va_D (fun q => q ∈ [g0, gp, gr, gm, gl, gw, gn]) (mW g0 gp gr gm gl gw gn cI pv nc tr tm tp mt wv nw re nm np kk kn) := kD_self hD0 rfl
  have hS : va_S (fun q => q ∈ [g0, gp, gr, gm, gl, gw, gn]) s.heap s.heap [] := va_S.rf
  have hl := lv_entry ([.ref g0, .int x1, .int x2, .int (bI x3), .int x4, .long x5]) (n := 7) (Nat.le_of_ble_eq_true rfl)
  rw [lg_entry_eq]
  generalize (lg_sl ([.ref g0, .int x1, .int x2, .int (bI x3), .int x4, .long x5]) ++ List.replicate (7 - (lg_sl ([.ref g0, .int x1, .int x2, .int (bI x3), .int x4, .long x5])).length) Slot.unset).toArray = ls at hl ⊢
  have hl : lv_has ls 7 [(0, .ref g0), (1, .int x1), (2, .int x2), (3, .int (bI x3)), (4, .int x4), (5, .long x5)] := hl
  refine lv_aload_n hx hb dX1_pass_0 rfl (lv_at hl 0 rfl) ?_
  refine lv_iload_n hx hb dX1_pass_1 rfl (lv_at hl 1 rfl) ?_
  refine lv_iload_n hx hb dX1_pass_2 rfl (lv_at hl 2 rfl) ?_
  refine lv_iload_n hx hb dX1_pass_3 rfl (lv_at hl 3 rfl) ?_
  refine lv_iconst (v := 0) hx hb dX1_pass_4 (by decide) ?_
  refine kc_R [.int x1, .int x2, .int (bI x3), .int 0] [] ⟨hx, hb, hml, hown, hts⟩ (cM_may l dC dI g0 gp gr gm gl gw gn cI pv nc tr tm tp mt wv nw re nm np kk kn bl pr x1 x2 x3 false hPV hBL hnc) (cwV 4 hts gZ_pass_may rfl rfl rfl (by decide +kernel) ⟨(Nat.le_of_ble_eq_true rfl), (Nat.le_of_ble_eq_true rfl)⟩) hP hK (ci := 1) (q0 := 0) rfl rfl rfl rfl hl.1 rfl (Nat.le_of_ble_eq_true rfl) dX1_pass_5 ⟨Nat.zero_le _, Nat.zero_le _⟩ ?_
  refine lv_if_ne (tgt := 13) hx hb dX1_pass_8 (by decide) (fun c8 => ?_) (fun c8 => ?_)
  · refine lv_iload_n hx hb dX1_pass_13 rfl (lv_at hl 1 rfl) ?_
    refine kc_S [.int x1] [] ⟨hx, hb, hml, hown, hts⟩ (cM_isPlain l x1) (cwS 1 hts gZ_pass_isPlain rfl rfl rfl (by decide +kernel) ⟨(Nat.le_of_ble_eq_true rfl), (Nat.le_of_ble_eq_true rfl)⟩) rfl hl.1 rfl (Nat.le_of_ble_eq_true rfl) dX1_pass_14 ⟨Nat.zero_le _, Nat.zero_le _⟩ ?_
    refine lv_if_eq (tgt := 70) hx hb dX1_pass_17 (by decide) (fun c17 => ?_) (fun c17 => ?_)
    · refine lv_iload hx hb dX1_pass_70 (lv_at hl 4 rfl) ?_
      refine lv_if_ne (tgt := 118) hx hb dX1_pass_72 (by decide) (fun c72 => ?_) (fun c72 => ?_)
      · refine lv_aload_n hx hb dX1_pass_118 rfl (lv_at hl 0 rfl) ?_
        refine lv_iload hx hb dX1_pass_119 (lv_at hl 4 rfl) ?_
        refine kc_R [.int x4] [] ⟨hx, hb, hml, hown, hts⟩ (cM_isObject l dC dI g0 gp gr gm gl gw gn cI pv nc tr tm tp mt wv nw re nm np kk kn x4) (cwV 1 hts gZ_pass_isObject rfl rfl rfl (by decide +kernel) ⟨(Nat.le_of_ble_eq_true rfl), (Nat.le_of_ble_eq_true rfl)⟩) hP hK (ci := 1) (q0 := 0) rfl rfl rfl rfl hl.1 rfl (Nat.le_of_ble_eq_true rfl) dX1_pass_121 ⟨Nat.zero_le _, Nat.zero_le _⟩ ?_
        refine lv_if_eq (tgt := 158) hx hb dX1_pass_124 (by decide) (fun c124 => ?_) (fun c124 => ?_)
        · refine lv_iconst (v := -1) hx hb dX1_pass_158 (by decide) ?_
          exact W.iret hx hb hr (fun t ht hW => ⟨by rw [fM_pass, if_neg c8, if_pos c17, if_neg c72, if_pos c124] <;> rfl, by rw [ht, fM_pass, if_neg c8, if_pos c17, if_neg c72, if_pos c124]; exact hP, hS.F ht⟩) hS.2.2 dX1_pass_159
        · refine lv_aload_n hx hb dX1_pass_127 rfl (lv_at hl 0 rfl) ?_
          refine lv_iload hx hb dX1_pass_128 (lv_at hl 4 rfl) ?_
          refine lv_iload_n hx hb dX1_pass_130 rfl (lv_at hl 1 rfl) ?_
          refine kc_R [.int x4, .int x1] [] ⟨hx, hb, hml, hown, hts⟩ (cM_isBelow l dC dI g0 gp gr gm gl gw gn cI pv nc tr tm tp mt wv nw re nm np kk kn bl pr x4 x1 hPV hBL hnc (mO_in hnc c124) (vp_in_mono (mmay_in hnc c8).1 (by omega))) (cwV 2 hts gZ_pass_isBelow rfl rfl rfl (by decide +kernel) ⟨(Nat.le_of_ble_eq_true rfl), (Nat.le_of_ble_eq_true rfl)⟩) hP hK (ci := 1) (q0 := 0) rfl rfl rfl rfl hl.1 rfl (Nat.le_of_ble_eq_true rfl) dX1_pass_131 ⟨Nat.zero_le _, Nat.zero_le _⟩ ?_
          refine lv_if_eq (tgt := 158) hx hb dX1_pass_134 (by decide) (fun c134 => ?_) (fun c134 => ?_)
          · refine lv_iconst (v := -1) hx hb dX1_pass_158 (by decide) ?_
            exact W.iret hx hb hr (fun t ht hW => ⟨by rw [fM_pass, if_neg c8, if_pos c17, if_neg c72, if_neg c124, if_pos c134] <;> rfl, by rw [ht, fM_pass, if_neg c8, if_pos c17, if_neg c72, if_neg c124, if_pos c134]; exact hP, hS.F ht⟩) hS.2.2 dX1_pass_159
          · refine lv_iload hx hb dX1_pass_137 (lv_at hl 4 rfl) ?_
            refine kc_S [.int x4] [] ⟨hx, hb, hml, hown, hts⟩ (cM_isBox l x4) (cwS 1 hts gZ_pass_isBox rfl rfl rfl (by decide +kernel) ⟨(Nat.le_of_ble_eq_true rfl), (Nat.le_of_ble_eq_true rfl)⟩) rfl hl.1 rfl (Nat.le_of_ble_eq_true rfl) dX1_pass_139 ⟨Nat.zero_le _, Nat.zero_le _⟩ ?_
            refine lv_if_eq (tgt := 160) hx hb dX1_pass_142 (by decide) (fun c142 => ?_) (fun c142 => ?_)
            · refine lv_iload_n hx hb dX1_pass_160 rfl (lv_at hl 2 rfl) ?_
              refine kc_S [.int x2] [] ⟨hx, hb, hml, hown, hts⟩ (cM_isReference l x2) (cwS 1 hts gZ_pass_isReference rfl rfl rfl (by decide +kernel) ⟨(Nat.le_of_ble_eq_true rfl), (Nat.le_of_ble_eq_true rfl)⟩) rfl hl.1 rfl (Nat.le_of_ble_eq_true rfl) dX1_pass_161 ⟨Nat.zero_le _, Nat.zero_le _⟩ ?_
              refine lv_if_eq (tgt := 190) hx hb dX1_pass_164 (by decide) (fun c164 => ?_) (fun c164 => ?_)
              · refine lv_iload hx hb dX1_pass_190 (lv_at hl 4 rfl) ?_
                refine kc_S [.int x4] [] ⟨hx, hb, hml, hown, hts⟩ (cM_isBox l x4) (cwS 1 hts gZ_pass_isBox rfl rfl rfl (by decide +kernel) ⟨(Nat.le_of_ble_eq_true rfl), (Nat.le_of_ble_eq_true rfl)⟩) rfl hl.1 rfl (Nat.le_of_ble_eq_true rfl) dX1_pass_192 ⟨Nat.zero_le _, Nat.zero_le _⟩ ?_
                refine lv_if_eq (tgt := 214) hx hb dX1_pass_195 (by decide) (fun c195 => ?_) (fun c195 => ?_)
                · refine lv_iconst (v := 2) hx hb dX1_pass_214 (by decide) ?_
                  exact W.iret hx hb hr (fun t ht hW => ⟨by rw [fM_pass, if_neg c8, if_pos c17, if_neg c72, if_neg c124, if_neg c134, if_pos c142, if_pos c164, if_pos c195] <;> rfl, by rw [ht, fM_pass, if_neg c8, if_pos c17, if_neg c72, if_neg c124, if_neg c134, if_pos c142, if_pos c164, if_pos c195]; exact hP, hS.F ht⟩) hS.2.2 dX1_pass_215
                · refine lv_iload_n hx hb dX1_pass_198 rfl (lv_at hl 3 rfl) ?_
                  refine lv_if_ne (tgt := 216) hx hb dX1_pass_199 (by decide) (fun c199 => ?_) (fun c199 => ?_)
                  · refine lv_aload_n hx hb dX1_pass_216 rfl (lv_at hl 0 rfl) ?_
                    refine lv_iconst (v := 0) hx hb dX1_pass_217 (by decide) ?_
                    refine lv_iload_n hx hb dX1_pass_218 rfl (lv_at hl 3 rfl) ?_
                    refine lv_if_eq (tgt := 231) hx hb dX1_pass_219 (by decide) (fun c219 => ?_) (fun c219 => ?_)
                    · refine lv_lload hx hb dX1_pass_231 (lv_at hl 5 rfl) ?_
                      refine kc_W [.int 0, .long x5] [] ⟨hx, hb, hml, hown, hts⟩ (cM_kept l dC dI g0 gp gr gm gl gw gn cI pv nc tr tm tp mt wv nw re nm np kk kn (0 : Int32) x5) (cwV 2 hts gZ_pass_kept rfl rfl rfl (by decide +kernel) ⟨(Nat.le_of_ble_eq_true rfl), (Nat.le_of_ble_eq_true rfl)⟩) hP hK hD hS rfl (ci := 1) (q0 := 0) rfl rfl rfl rfl hl.1 rfl (Nat.le_of_ble_eq_true rfl) dX1_pass_233 ⟨Nat.zero_le _, Nat.zero_le _⟩ (fun H locs hP1 hS hk1 => ?_)
                      have hP : va_P (dC, dI) vwCl (mW g0 gp gr gm gl gw gn cI pv nc tr tm tp mt wv nw re nm np (0 : Int32) x5) H := hP1
                      have hD : va_D _ (mW g0 gp gr gm gl gw gn cI pv nc tr tm tp mt wv nw re nm np (0 : Int32) x5) := kD_same hD rfl
                      exact W.iret hx hb hr (fun t ht hW => ⟨by rw [fM_pass, if_neg c8, if_pos c17, if_neg c72, if_neg c124, if_neg c134, if_pos c142, if_pos c164, if_neg c195, if_neg c199, if_pos c219] <;> rfl, by rw [ht, fM_pass, if_neg c8, if_pos c17, if_neg c72, if_neg c124, if_neg c134, if_pos c142, if_pos c164, if_neg c195, if_neg c199, if_pos c219]; exact hP, hS.F ht⟩) hS.2.2 dX1_pass_236
                    · refine lv_iload_n hx hb dX1_pass_222 rfl (lv_at hl 2 rfl) ?_
                      refine lv_lload hx hb dX1_pass_223 (lv_at hl 5 rfl) ?_
                      refine kc_S [.int x2, .long x5] [.int 0, .ref g0] ⟨hx, hb, hml, hown, hts⟩ (cM_forcedTo l x2 x5) (cwS 2 hts gZ_pass_forcedTo rfl rfl rfl (by decide +kernel) ⟨(Nat.le_of_ble_eq_true rfl), (Nat.le_of_ble_eq_true rfl)⟩) rfl hl.1 rfl (Nat.le_of_ble_eq_true rfl) dX1_pass_225 ⟨Nat.zero_le _, Nat.zero_le _⟩ ?_
                      refine lv_goto (tgt := 233) hx hb dX1_pass_228 (by decide) ?_
                      refine kc_W [.int 0, .long (fM_forcedTo x2 x5)] [] ⟨hx, hb, hml, hown, hts⟩ (cM_kept l dC dI g0 gp gr gm gl gw gn cI pv nc tr tm tp mt wv nw re nm np kk kn (0 : Int32) (fM_forcedTo x2 x5)) (cwV 2 hts gZ_pass_kept rfl rfl rfl (by decide +kernel) ⟨(Nat.le_of_ble_eq_true rfl), (Nat.le_of_ble_eq_true rfl)⟩) hP hK hD hS rfl (ci := 1) (q0 := 0) rfl rfl rfl rfl hl.1 rfl (Nat.le_of_ble_eq_true rfl) dX1_pass_233 ⟨Nat.zero_le _, Nat.zero_le _⟩ (fun H locs hP1 hS hk1 => ?_)
                      have hP : va_P (dC, dI) vwCl (mW g0 gp gr gm gl gw gn cI pv nc tr tm tp mt wv nw re nm np (0 : Int32) (fM_forcedTo x2 x5)) H := hP1
                      have hD : va_D _ (mW g0 gp gr gm gl gw gn cI pv nc tr tm tp mt wv nw re nm np (0 : Int32) (fM_forcedTo x2 x5)) := kD_same hD rfl
                      exact W.iret hx hb hr (fun t ht hW => ⟨by rw [fM_pass, if_neg c8, if_pos c17, if_neg c72, if_neg c124, if_neg c134, if_pos c142, if_pos c164, if_neg c195, if_neg c199, if_neg c219] <;> rfl, by rw [ht, fM_pass, if_neg c8, if_pos c17, if_neg c72, if_neg c124, if_neg c134, if_pos c142, if_pos c164, if_neg c195, if_neg c199, if_neg c219]; exact hP, hS.F ht⟩) hS.2.2 dX1_pass_236
                  · refine lv_iload hx hb dX1_pass_202 (lv_at hl 4 rfl) ?_
                    refine lv_bipush (v := 8) hx hb dX1_pass_204 (by decide) ?_
                    refine lv_isub hx hb dX1_pass_206 ?_
                    refine lv_iload_n hx hb dX1_pass_207 rfl (lv_at hl 2 rfl) ?_
                    refine kc_S [.int (x4 - (8 : Int32)), .int x2] [] ⟨hx, hb, hml, hown, hts⟩ (cM_widens l (x4 - (8 : Int32)) x2) (cwS 2 hts gZ_pass_widens rfl rfl rfl (by decide +kernel) ⟨(Nat.le_of_ble_eq_true rfl), (Nat.le_of_ble_eq_true rfl)⟩) rfl hl.1 rfl (Nat.le_of_ble_eq_true rfl) dX1_pass_208 ⟨Nat.zero_le _, Nat.zero_le _⟩ ?_
                    refine lv_if_ne (tgt := 216) hx hb dX1_pass_211 (by decide) (fun c211 => ?_) (fun c211 => ?_)
                    · refine lv_aload_n hx hb dX1_pass_216 rfl (lv_at hl 0 rfl) ?_
                      refine lv_iconst (v := 0) hx hb dX1_pass_217 (by decide) ?_
                      refine lv_iload_n hx hb dX1_pass_218 rfl (lv_at hl 3 rfl) ?_
                      refine lv_if_eq (tgt := 231) hx hb dX1_pass_219 (by decide) (fun c219 => ?_) (fun c219 => ?_)
                      · refine lv_lload hx hb dX1_pass_231 (lv_at hl 5 rfl) ?_
                        refine kc_W [.int 0, .long x5] [] ⟨hx, hb, hml, hown, hts⟩ (cM_kept l dC dI g0 gp gr gm gl gw gn cI pv nc tr tm tp mt wv nw re nm np kk kn (0 : Int32) x5) (cwV 2 hts gZ_pass_kept rfl rfl rfl (by decide +kernel) ⟨(Nat.le_of_ble_eq_true rfl), (Nat.le_of_ble_eq_true rfl)⟩) hP hK hD hS rfl (ci := 1) (q0 := 0) rfl rfl rfl rfl hl.1 rfl (Nat.le_of_ble_eq_true rfl) dX1_pass_233 ⟨Nat.zero_le _, Nat.zero_le _⟩ (fun H locs hP1 hS hk1 => ?_)
                        have hP : va_P (dC, dI) vwCl (mW g0 gp gr gm gl gw gn cI pv nc tr tm tp mt wv nw re nm np (0 : Int32) x5) H := hP1
                        have hD : va_D _ (mW g0 gp gr gm gl gw gn cI pv nc tr tm tp mt wv nw re nm np (0 : Int32) x5) := kD_same hD rfl
                        exact W.iret hx hb hr (fun t ht hW => ⟨by rw [fM_pass, if_neg c8, if_pos c17, if_neg c72, if_neg c124, if_neg c134, if_pos c142, if_pos c164, if_neg c195, if_pos c199, if_neg c211, if_pos c219] <;> rfl, by rw [ht, fM_pass, if_neg c8, if_pos c17, if_neg c72, if_neg c124, if_neg c134, if_pos c142, if_pos c164, if_neg c195, if_pos c199, if_neg c211, if_pos c219]; exact hP, hS.F ht⟩) hS.2.2 dX1_pass_236
                      · refine lv_iload_n hx hb dX1_pass_222 rfl (lv_at hl 2 rfl) ?_
                        refine lv_lload hx hb dX1_pass_223 (lv_at hl 5 rfl) ?_
                        refine kc_S [.int x2, .long x5] [.int 0, .ref g0] ⟨hx, hb, hml, hown, hts⟩ (cM_forcedTo l x2 x5) (cwS 2 hts gZ_pass_forcedTo rfl rfl rfl (by decide +kernel) ⟨(Nat.le_of_ble_eq_true rfl), (Nat.le_of_ble_eq_true rfl)⟩) rfl hl.1 rfl (Nat.le_of_ble_eq_true rfl) dX1_pass_225 ⟨Nat.zero_le _, Nat.zero_le _⟩ ?_
                        refine lv_goto (tgt := 233) hx hb dX1_pass_228 (by decide) ?_
                        refine kc_W [.int 0, .long (fM_forcedTo x2 x5)] [] ⟨hx, hb, hml, hown, hts⟩ (cM_kept l dC dI g0 gp gr gm gl gw gn cI pv nc tr tm tp mt wv nw re nm np kk kn (0 : Int32) (fM_forcedTo x2 x5)) (cwV 2 hts gZ_pass_kept rfl rfl rfl (by decide +kernel) ⟨(Nat.le_of_ble_eq_true rfl), (Nat.le_of_ble_eq_true rfl)⟩) hP hK hD hS rfl (ci := 1) (q0 := 0) rfl rfl rfl rfl hl.1 rfl (Nat.le_of_ble_eq_true rfl) dX1_pass_233 ⟨Nat.zero_le _, Nat.zero_le _⟩ (fun H locs hP1 hS hk1 => ?_)
                        have hP : va_P (dC, dI) vwCl (mW g0 gp gr gm gl gw gn cI pv nc tr tm tp mt wv nw re nm np (0 : Int32) (fM_forcedTo x2 x5)) H := hP1
                        have hD : va_D _ (mW g0 gp gr gm gl gw gn cI pv nc tr tm tp mt wv nw re nm np (0 : Int32) (fM_forcedTo x2 x5)) := kD_same hD rfl
                        exact W.iret hx hb hr (fun t ht hW => ⟨by rw [fM_pass, if_neg c8, if_pos c17, if_neg c72, if_neg c124, if_neg c134, if_pos c142, if_pos c164, if_neg c195, if_pos c199, if_neg c211, if_neg c219] <;> rfl, by rw [ht, fM_pass, if_neg c8, if_pos c17, if_neg c72, if_neg c124, if_neg c134, if_pos c142, if_pos c164, if_neg c195, if_pos c199, if_neg c211, if_neg c219]; exact hP, hS.F ht⟩) hS.2.2 dX1_pass_236
                    · refine lv_iconst (v := 2) hx hb dX1_pass_214 (by decide) ?_
                      exact W.iret hx hb hr (fun t ht hW => ⟨by rw [fM_pass, if_neg c8, if_pos c17, if_neg c72, if_neg c124, if_neg c134, if_pos c142, if_pos c164, if_neg c195, if_pos c199, if_pos c211] <;> rfl, by rw [ht, fM_pass, if_neg c8, if_pos c17, if_neg c72, if_neg c124, if_neg c134, if_pos c142, if_pos c164, if_neg c195, if_pos c199, if_pos c211]; exact hP, hS.F ht⟩) hS.2.2 dX1_pass_215
              · refine lv_aload_n hx hb dX1_pass_167 rfl (lv_at hl 0 rfl) ?_
                refine lv_iload hx hb dX1_pass_168 (lv_at hl 4 rfl) ?_
                refine lv_iload_n hx hb dX1_pass_170 rfl (lv_at hl 2 rfl) ?_
                refine kc_R [.int x4, .int x2] [] ⟨hx, hb, hml, hown, hts⟩ (cM_isBelow l dC dI g0 gp gr gm gl gw gn cI pv nc tr tm tp mt wv nw re nm np kk kn bl pr x4 x2 hPV hBL hnc (mO_in hnc c124) (vp_in_mono (mmay_in hnc c8).2 (by omega))) (cwV 2 hts gZ_pass_isBelow rfl rfl rfl (by decide +kernel) ⟨(Nat.le_of_ble_eq_true rfl), (Nat.le_of_ble_eq_true rfl)⟩) hP hK (ci := 1) (q0 := 0) rfl rfl rfl rfl hl.1 rfl (Nat.le_of_ble_eq_true rfl) dX1_pass_171 ⟨Nat.zero_le _, Nat.zero_le _⟩ ?_
                refine lv_if_eq (tgt := 188) hx hb dX1_pass_174 (by decide) (fun c174 => ?_) (fun c174 => ?_)
                · refine lv_iconst (v := 2) hx hb dX1_pass_188 (by decide) ?_
                  exact W.iret hx hb hr (fun t ht hW => ⟨by rw [fM_pass, if_neg c8, if_pos c17, if_neg c72, if_neg c124, if_neg c134, if_pos c142, if_neg c164, if_pos c174] <;> rfl, by rw [ht, fM_pass, if_neg c8, if_pos c17, if_neg c72, if_neg c124, if_neg c134, if_pos c142, if_neg c164, if_pos c174]; exact hP, hS.F ht⟩) hS.2.2 dX1_pass_189
                · refine lv_aload_n hx hb dX1_pass_177 rfl (lv_at hl 0 rfl) ?_
                  refine lv_iload hx hb dX1_pass_178 (lv_at hl 4 rfl) ?_
                  refine lv_lload hx hb dX1_pass_180 (lv_at hl 5 rfl) ?_
                  refine kc_W [.int x4, .long x5] [] ⟨hx, hb, hml, hown, hts⟩ (cM_kept l dC dI g0 gp gr gm gl gw gn cI pv nc tr tm tp mt wv nw re nm np kk kn x4 x5) (cwV 2 hts gZ_pass_kept rfl rfl rfl (by decide +kernel) ⟨(Nat.le_of_ble_eq_true rfl), (Nat.le_of_ble_eq_true rfl)⟩) hP hK hD hS rfl (ci := 1) (q0 := 0) rfl rfl rfl rfl hl.1 rfl (Nat.le_of_ble_eq_true rfl) dX1_pass_182 ⟨Nat.zero_le _, Nat.zero_le _⟩ (fun H locs hP1 hS hk1 => ?_)
                  have hP : va_P (dC, dI) vwCl (mW g0 gp gr gm gl gw gn cI pv nc tr tm tp mt wv nw re nm np x4 x5) H := hP1
                  have hD : va_D _ (mW g0 gp gr gm gl gw gn cI pv nc tr tm tp mt wv nw re nm np x4 x5) := kD_same hD rfl
                  refine lv_goto (tgt := 189) hx hb dX1_pass_185 (by decide) ?_
                  exact W.iret hx hb hr (fun t ht hW => ⟨by rw [fM_pass, if_neg c8, if_pos c17, if_neg c72, if_neg c124, if_neg c134, if_pos c142, if_neg c164, if_neg c174] <;> rfl, by rw [ht, fM_pass, if_neg c8, if_pos c17, if_neg c72, if_neg c124, if_neg c134, if_pos c142, if_neg c164, if_neg c174]; exact hP, hS.F ht⟩) hS.2.2 dX1_pass_189
            · refine lv_iload hx hb dX1_pass_145 (lv_at hl 4 rfl) ?_
              refine lv_bipush (v := 8) hx hb dX1_pass_147 (by decide) ?_
              refine lv_isub hx hb dX1_pass_149 ?_
              refine lv_lload hx hb dX1_pass_150 (lv_at hl 5 rfl) ?_
              refine kc_S [.int (x4 - (8 : Int32)), .long x5] [] ⟨hx, hb, hml, hown, hts⟩ (cM_isNumber l (x4 - (8 : Int32)) x5) (cwS 2 hts gZ_pass_isNumber rfl rfl rfl (by decide +kernel) ⟨(Nat.le_of_ble_eq_true rfl), (Nat.le_of_ble_eq_true rfl)⟩) rfl hl.1 rfl (Nat.le_of_ble_eq_true rfl) dX1_pass_152 ⟨Nat.zero_le _, Nat.zero_le _⟩ ?_
              refine lv_if_ne (tgt := 160) hx hb dX1_pass_155 (by decide) (fun c155 => ?_) (fun c155 => ?_)
              · refine lv_iload_n hx hb dX1_pass_160 rfl (lv_at hl 2 rfl) ?_
                refine kc_S [.int x2] [] ⟨hx, hb, hml, hown, hts⟩ (cM_isReference l x2) (cwS 1 hts gZ_pass_isReference rfl rfl rfl (by decide +kernel) ⟨(Nat.le_of_ble_eq_true rfl), (Nat.le_of_ble_eq_true rfl)⟩) rfl hl.1 rfl (Nat.le_of_ble_eq_true rfl) dX1_pass_161 ⟨Nat.zero_le _, Nat.zero_le _⟩ ?_
                refine lv_if_eq (tgt := 190) hx hb dX1_pass_164 (by decide) (fun c164 => ?_) (fun c164 => ?_)
                · refine lv_iload hx hb dX1_pass_190 (lv_at hl 4 rfl) ?_
                  refine kc_S [.int x4] [] ⟨hx, hb, hml, hown, hts⟩ (cM_isBox l x4) (cwS 1 hts gZ_pass_isBox rfl rfl rfl (by decide +kernel) ⟨(Nat.le_of_ble_eq_true rfl), (Nat.le_of_ble_eq_true rfl)⟩) rfl hl.1 rfl (Nat.le_of_ble_eq_true rfl) dX1_pass_192 ⟨Nat.zero_le _, Nat.zero_le _⟩ ?_
                  refine lv_if_eq (tgt := 214) hx hb dX1_pass_195 (by decide) (fun c195 => ?_) (fun c195 => ?_)
                  · refine lv_iconst (v := 2) hx hb dX1_pass_214 (by decide) ?_
                    exact W.iret hx hb hr (fun t ht hW => ⟨by rw [fM_pass, if_neg c8, if_pos c17, if_neg c72, if_neg c124, if_neg c134, if_neg c142, if_neg c155, if_pos c164, if_pos c195] <;> rfl, by rw [ht, fM_pass, if_neg c8, if_pos c17, if_neg c72, if_neg c124, if_neg c134, if_neg c142, if_neg c155, if_pos c164, if_pos c195]; exact hP, hS.F ht⟩) hS.2.2 dX1_pass_215
                  · refine lv_iload_n hx hb dX1_pass_198 rfl (lv_at hl 3 rfl) ?_
                    refine lv_if_ne (tgt := 216) hx hb dX1_pass_199 (by decide) (fun c199 => ?_) (fun c199 => ?_)
                    · refine lv_aload_n hx hb dX1_pass_216 rfl (lv_at hl 0 rfl) ?_
                      refine lv_iconst (v := 0) hx hb dX1_pass_217 (by decide) ?_
                      refine lv_iload_n hx hb dX1_pass_218 rfl (lv_at hl 3 rfl) ?_
                      refine lv_if_eq (tgt := 231) hx hb dX1_pass_219 (by decide) (fun c219 => ?_) (fun c219 => ?_)
                      · refine lv_lload hx hb dX1_pass_231 (lv_at hl 5 rfl) ?_
                        refine kc_W [.int 0, .long x5] [] ⟨hx, hb, hml, hown, hts⟩ (cM_kept l dC dI g0 gp gr gm gl gw gn cI pv nc tr tm tp mt wv nw re nm np kk kn (0 : Int32) x5) (cwV 2 hts gZ_pass_kept rfl rfl rfl (by decide +kernel) ⟨(Nat.le_of_ble_eq_true rfl), (Nat.le_of_ble_eq_true rfl)⟩) hP hK hD hS rfl (ci := 1) (q0 := 0) rfl rfl rfl rfl hl.1 rfl (Nat.le_of_ble_eq_true rfl) dX1_pass_233 ⟨Nat.zero_le _, Nat.zero_le _⟩ (fun H locs hP1 hS hk1 => ?_)
                        have hP : va_P (dC, dI) vwCl (mW g0 gp gr gm gl gw gn cI pv nc tr tm tp mt wv nw re nm np (0 : Int32) x5) H := hP1
                        have hD : va_D _ (mW g0 gp gr gm gl gw gn cI pv nc tr tm tp mt wv nw re nm np (0 : Int32) x5) := kD_same hD rfl
                        exact W.iret hx hb hr (fun t ht hW => ⟨by rw [fM_pass, if_neg c8, if_pos c17, if_neg c72, if_neg c124, if_neg c134, if_neg c142, if_neg c155, if_pos c164, if_neg c195, if_neg c199, if_pos c219] <;> rfl, by rw [ht, fM_pass, if_neg c8, if_pos c17, if_neg c72, if_neg c124, if_neg c134, if_neg c142, if_neg c155, if_pos c164, if_neg c195, if_neg c199, if_pos c219]; exact hP, hS.F ht⟩) hS.2.2 dX1_pass_236
                      · refine lv_iload_n hx hb dX1_pass_222 rfl (lv_at hl 2 rfl) ?_
                        refine lv_lload hx hb dX1_pass_223 (lv_at hl 5 rfl) ?_
                        refine kc_S [.int x2, .long x5] [.int 0, .ref g0] ⟨hx, hb, hml, hown, hts⟩ (cM_forcedTo l x2 x5) (cwS 2 hts gZ_pass_forcedTo rfl rfl rfl (by decide +kernel) ⟨(Nat.le_of_ble_eq_true rfl), (Nat.le_of_ble_eq_true rfl)⟩) rfl hl.1 rfl (Nat.le_of_ble_eq_true rfl) dX1_pass_225 ⟨Nat.zero_le _, Nat.zero_le _⟩ ?_
                        refine lv_goto (tgt := 233) hx hb dX1_pass_228 (by decide) ?_
                        refine kc_W [.int 0, .long (fM_forcedTo x2 x5)] [] ⟨hx, hb, hml, hown, hts⟩ (cM_kept l dC dI g0 gp gr gm gl gw gn cI pv nc tr tm tp mt wv nw re nm np kk kn (0 : Int32) (fM_forcedTo x2 x5)) (cwV 2 hts gZ_pass_kept rfl rfl rfl (by decide +kernel) ⟨(Nat.le_of_ble_eq_true rfl), (Nat.le_of_ble_eq_true rfl)⟩) hP hK hD hS rfl (ci := 1) (q0 := 0) rfl rfl rfl rfl hl.1 rfl (Nat.le_of_ble_eq_true rfl) dX1_pass_233 ⟨Nat.zero_le _, Nat.zero_le _⟩ (fun H locs hP1 hS hk1 => ?_)
                        have hP : va_P (dC, dI) vwCl (mW g0 gp gr gm gl gw gn cI pv nc tr tm tp mt wv nw re nm np (0 : Int32) (fM_forcedTo x2 x5)) H := hP1
                        have hD : va_D _ (mW g0 gp gr gm gl gw gn cI pv nc tr tm tp mt wv nw re nm np (0 : Int32) (fM_forcedTo x2 x5)) := kD_same hD rfl
                        exact W.iret hx hb hr (fun t ht hW => ⟨by rw [fM_pass, if_neg c8, if_pos c17, if_neg c72, if_neg c124, if_neg c134, if_neg c142, if_neg c155, if_pos c164, if_neg c195, if_neg c199, if_neg c219] <;> rfl, by rw [ht, fM_pass, if_neg c8, if_pos c17, if_neg c72, if_neg c124, if_neg c134, if_neg c142, if_neg c155, if_pos c164, if_neg c195, if_neg c199, if_neg c219]; exact hP, hS.F ht⟩) hS.2.2 dX1_pass_236
                    · refine lv_iload hx hb dX1_pass_202 (lv_at hl 4 rfl) ?_
                      refine lv_bipush (v := 8) hx hb dX1_pass_204 (by decide) ?_
                      refine lv_isub hx hb dX1_pass_206 ?_
                      refine lv_iload_n hx hb dX1_pass_207 rfl (lv_at hl 2 rfl) ?_
                      refine kc_S [.int (x4 - (8 : Int32)), .int x2] [] ⟨hx, hb, hml, hown, hts⟩ (cM_widens l (x4 - (8 : Int32)) x2) (cwS 2 hts gZ_pass_widens rfl rfl rfl (by decide +kernel) ⟨(Nat.le_of_ble_eq_true rfl), (Nat.le_of_ble_eq_true rfl)⟩) rfl hl.1 rfl (Nat.le_of_ble_eq_true rfl) dX1_pass_208 ⟨Nat.zero_le _, Nat.zero_le _⟩ ?_
                      refine lv_if_ne (tgt := 216) hx hb dX1_pass_211 (by decide) (fun c211 => ?_) (fun c211 => ?_)
                      · refine lv_aload_n hx hb dX1_pass_216 rfl (lv_at hl 0 rfl) ?_
                        refine lv_iconst (v := 0) hx hb dX1_pass_217 (by decide) ?_
                        refine lv_iload_n hx hb dX1_pass_218 rfl (lv_at hl 3 rfl) ?_
                        refine lv_if_eq (tgt := 231) hx hb dX1_pass_219 (by decide) (fun c219 => ?_) (fun c219 => ?_)
                        · refine lv_lload hx hb dX1_pass_231 (lv_at hl 5 rfl) ?_
                          refine kc_W [.int 0, .long x5] [] ⟨hx, hb, hml, hown, hts⟩ (cM_kept l dC dI g0 gp gr gm gl gw gn cI pv nc tr tm tp mt wv nw re nm np kk kn (0 : Int32) x5) (cwV 2 hts gZ_pass_kept rfl rfl rfl (by decide +kernel) ⟨(Nat.le_of_ble_eq_true rfl), (Nat.le_of_ble_eq_true rfl)⟩) hP hK hD hS rfl (ci := 1) (q0 := 0) rfl rfl rfl rfl hl.1 rfl (Nat.le_of_ble_eq_true rfl) dX1_pass_233 ⟨Nat.zero_le _, Nat.zero_le _⟩ (fun H locs hP1 hS hk1 => ?_)
                          have hP : va_P (dC, dI) vwCl (mW g0 gp gr gm gl gw gn cI pv nc tr tm tp mt wv nw re nm np (0 : Int32) x5) H := hP1
                          have hD : va_D _ (mW g0 gp gr gm gl gw gn cI pv nc tr tm tp mt wv nw re nm np (0 : Int32) x5) := kD_same hD rfl
                          exact W.iret hx hb hr (fun t ht hW => ⟨by rw [fM_pass, if_neg c8, if_pos c17, if_neg c72, if_neg c124, if_neg c134, if_neg c142, if_neg c155, if_pos c164, if_neg c195, if_pos c199, if_neg c211, if_pos c219] <;> rfl, by rw [ht, fM_pass, if_neg c8, if_pos c17, if_neg c72, if_neg c124, if_neg c134, if_neg c142, if_neg c155, if_pos c164, if_neg c195, if_pos c199, if_neg c211, if_pos c219]; exact hP, hS.F ht⟩) hS.2.2 dX1_pass_236
                        · refine lv_iload_n hx hb dX1_pass_222 rfl (lv_at hl 2 rfl) ?_
                          refine lv_lload hx hb dX1_pass_223 (lv_at hl 5 rfl) ?_
                          refine kc_S [.int x2, .long x5] [.int 0, .ref g0] ⟨hx, hb, hml, hown, hts⟩ (cM_forcedTo l x2 x5) (cwS 2 hts gZ_pass_forcedTo rfl rfl rfl (by decide +kernel) ⟨(Nat.le_of_ble_eq_true rfl), (Nat.le_of_ble_eq_true rfl)⟩) rfl hl.1 rfl (Nat.le_of_ble_eq_true rfl) dX1_pass_225 ⟨Nat.zero_le _, Nat.zero_le _⟩ ?_
                          refine lv_goto (tgt := 233) hx hb dX1_pass_228 (by decide) ?_
                          refine kc_W [.int 0, .long (fM_forcedTo x2 x5)] [] ⟨hx, hb, hml, hown, hts⟩ (cM_kept l dC dI g0 gp gr gm gl gw gn cI pv nc tr tm tp mt wv nw re nm np kk kn (0 : Int32) (fM_forcedTo x2 x5)) (cwV 2 hts gZ_pass_kept rfl rfl rfl (by decide +kernel) ⟨(Nat.le_of_ble_eq_true rfl), (Nat.le_of_ble_eq_true rfl)⟩) hP hK hD hS rfl (ci := 1) (q0 := 0) rfl rfl rfl rfl hl.1 rfl (Nat.le_of_ble_eq_true rfl) dX1_pass_233 ⟨Nat.zero_le _, Nat.zero_le _⟩ (fun H locs hP1 hS hk1 => ?_)
                          have hP : va_P (dC, dI) vwCl (mW g0 gp gr gm gl gw gn cI pv nc tr tm tp mt wv nw re nm np (0 : Int32) (fM_forcedTo x2 x5)) H := hP1
                          have hD : va_D _ (mW g0 gp gr gm gl gw gn cI pv nc tr tm tp mt wv nw re nm np (0 : Int32) (fM_forcedTo x2 x5)) := kD_same hD rfl
                          exact W.iret hx hb hr (fun t ht hW => ⟨by rw [fM_pass, if_neg c8, if_pos c17, if_neg c72, if_neg c124, if_neg c134, if_neg c142, if_neg c155, if_pos c164, if_neg c195, if_pos c199, if_neg c211, if_neg c219] <;> rfl, by rw [ht, fM_pass, if_neg c8, if_pos c17, if_neg c72, if_neg c124, if_neg c134, if_neg c142, if_neg c155, if_pos c164, if_neg c195, if_pos c199, if_neg c211, if_neg c219]; exact hP, hS.F ht⟩) hS.2.2 dX1_pass_236
                      · refine lv_iconst (v := 2) hx hb dX1_pass_214 (by decide) ?_
                        exact W.iret hx hb hr (fun t ht hW => ⟨by rw [fM_pass, if_neg c8, if_pos c17, if_neg c72, if_neg c124, if_neg c134, if_neg c142, if_neg c155, if_pos c164, if_neg c195, if_pos c199, if_pos c211] <;> rfl, by rw [ht, fM_pass, if_neg c8, if_pos c17, if_neg c72, if_neg c124, if_neg c134, if_neg c142, if_neg c155, if_pos c164, if_neg c195, if_pos c199, if_pos c211]; exact hP, hS.F ht⟩) hS.2.2 dX1_pass_215
                · refine lv_aload_n hx hb dX1_pass_167 rfl (lv_at hl 0 rfl) ?_
                  refine lv_iload hx hb dX1_pass_168 (lv_at hl 4 rfl) ?_
                  refine lv_iload_n hx hb dX1_pass_170 rfl (lv_at hl 2 rfl) ?_
                  refine kc_R [.int x4, .int x2] [] ⟨hx, hb, hml, hown, hts⟩ (cM_isBelow l dC dI g0 gp gr gm gl gw gn cI pv nc tr tm tp mt wv nw re nm np kk kn bl pr x4 x2 hPV hBL hnc (mO_in hnc c124) (vp_in_mono (mmay_in hnc c8).2 (by omega))) (cwV 2 hts gZ_pass_isBelow rfl rfl rfl (by decide +kernel) ⟨(Nat.le_of_ble_eq_true rfl), (Nat.le_of_ble_eq_true rfl)⟩) hP hK (ci := 1) (q0 := 0) rfl rfl rfl rfl hl.1 rfl (Nat.le_of_ble_eq_true rfl) dX1_pass_171 ⟨Nat.zero_le _, Nat.zero_le _⟩ ?_
                  refine lv_if_eq (tgt := 188) hx hb dX1_pass_174 (by decide) (fun c174 => ?_) (fun c174 => ?_)
                  · refine lv_iconst (v := 2) hx hb dX1_pass_188 (by decide) ?_
                    exact W.iret hx hb hr (fun t ht hW => ⟨by rw [fM_pass, if_neg c8, if_pos c17, if_neg c72, if_neg c124, if_neg c134, if_neg c142, if_neg c155, if_neg c164, if_pos c174] <;> rfl, by rw [ht, fM_pass, if_neg c8, if_pos c17, if_neg c72, if_neg c124, if_neg c134, if_neg c142, if_neg c155, if_neg c164, if_pos c174]; exact hP, hS.F ht⟩) hS.2.2 dX1_pass_189
                  · refine lv_aload_n hx hb dX1_pass_177 rfl (lv_at hl 0 rfl) ?_
                    refine lv_iload hx hb dX1_pass_178 (lv_at hl 4 rfl) ?_
                    refine lv_lload hx hb dX1_pass_180 (lv_at hl 5 rfl) ?_
                    refine kc_W [.int x4, .long x5] [] ⟨hx, hb, hml, hown, hts⟩ (cM_kept l dC dI g0 gp gr gm gl gw gn cI pv nc tr tm tp mt wv nw re nm np kk kn x4 x5) (cwV 2 hts gZ_pass_kept rfl rfl rfl (by decide +kernel) ⟨(Nat.le_of_ble_eq_true rfl), (Nat.le_of_ble_eq_true rfl)⟩) hP hK hD hS rfl (ci := 1) (q0 := 0) rfl rfl rfl rfl hl.1 rfl (Nat.le_of_ble_eq_true rfl) dX1_pass_182 ⟨Nat.zero_le _, Nat.zero_le _⟩ (fun H locs hP1 hS hk1 => ?_)
                    have hP : va_P (dC, dI) vwCl (mW g0 gp gr gm gl gw gn cI pv nc tr tm tp mt wv nw re nm np x4 x5) H := hP1
                    have hD : va_D _ (mW g0 gp gr gm gl gw gn cI pv nc tr tm tp mt wv nw re nm np x4 x5) := kD_same hD rfl
                    refine lv_goto (tgt := 189) hx hb dX1_pass_185 (by decide) ?_
                    exact W.iret hx hb hr (fun t ht hW => ⟨by rw [fM_pass, if_neg c8, if_pos c17, if_neg c72, if_neg c124, if_neg c134, if_neg c142, if_neg c155, if_neg c164, if_neg c174] <;> rfl, by rw [ht, fM_pass, if_neg c8, if_pos c17, if_neg c72, if_neg c124, if_neg c134, if_neg c142, if_neg c155, if_neg c164, if_neg c174]; exact hP, hS.F ht⟩) hS.2.2 dX1_pass_189
              · refine lv_iconst (v := -1) hx hb dX1_pass_158 (by decide) ?_
                exact W.iret hx hb hr (fun t ht hW => ⟨by rw [fM_pass, if_neg c8, if_pos c17, if_neg c72, if_neg c124, if_neg c134, if_neg c142, if_pos c155] <;> rfl, by rw [ht, fM_pass, if_neg c8, if_pos c17, if_neg c72, if_neg c124, if_neg c134, if_neg c142, if_pos c155]; exact hP, hS.F ht⟩) hS.2.2 dX1_pass_159
      · refine lv_iload_n hx hb dX1_pass_75 rfl (lv_at hl 2 rfl) ?_
        refine kc_S [.int x2] [] ⟨hx, hb, hml, hown, hts⟩ (cM_isReference l x2) (cwS 1 hts gZ_pass_isReference rfl rfl rfl (by decide +kernel) ⟨(Nat.le_of_ble_eq_true rfl), (Nat.le_of_ble_eq_true rfl)⟩) rfl hl.1 rfl (Nat.le_of_ble_eq_true rfl) dX1_pass_76 ⟨Nat.zero_le _, Nat.zero_le _⟩ ?_
        refine lv_if_eq (tgt := 89) hx hb dX1_pass_79 (by decide) (fun c79 => ?_) (fun c79 => ?_)
        · refine lv_iload_n hx hb dX1_pass_89 rfl (lv_at hl 3 rfl) ?_
          refine lv_if_eq (tgt := 102) hx hb dX1_pass_90 (by decide) (fun c90 => ?_) (fun c90 => ?_)
          · refine lv_iload_n hx hb dX1_pass_102 rfl (lv_at hl 1 rfl) ?_
            refine lv_iload_n hx hb dX1_pass_103 rfl (lv_at hl 2 rfl) ?_
            refine lv_icmp_ne (tgt := 116) hx hb dX1_pass_104 (by decide) (fun c104 => ?_) (fun c104 => ?_)
            · refine lv_iconst (v := 1) hx hb dX1_pass_116 (by decide) ?_
              exact W.iret hx hb hr (fun t ht hW => ⟨by rw [fM_pass, if_neg c8, if_pos c17, if_pos c72, if_pos c79, if_pos c90, if_neg c104] <;> rfl, by rw [ht, fM_pass, if_neg c8, if_pos c17, if_pos c72, if_pos c79, if_pos c90, if_neg c104]; exact hP, hS.F ht⟩) hS.2.2 dX1_pass_117
            · refine lv_aload_n hx hb dX1_pass_107 rfl (lv_at hl 0 rfl) ?_
              refine lv_iconst (v := 0) hx hb dX1_pass_108 (by decide) ?_
              refine lv_lconst (v := 0) hx hb dX1_pass_109 (by decide) ?_
              refine kc_W [.int 0, .long 0] [] ⟨hx, hb, hml, hown, hts⟩ (cM_kept l dC dI g0 gp gr gm gl gw gn cI pv nc tr tm tp mt wv nw re nm np kk kn (0 : Int32) (0 : Int64)) (cwV 2 hts gZ_pass_kept rfl rfl rfl (by decide +kernel) ⟨(Nat.le_of_ble_eq_true rfl), (Nat.le_of_ble_eq_true rfl)⟩) hP hK hD hS rfl (ci := 1) (q0 := 0) rfl rfl rfl rfl hl.1 rfl (Nat.le_of_ble_eq_true rfl) dX1_pass_110 ⟨Nat.zero_le _, Nat.zero_le _⟩ (fun H locs hP1 hS hk1 => ?_)
              have hP : va_P (dC, dI) vwCl (mW g0 gp gr gm gl gw gn cI pv nc tr tm tp mt wv nw re nm np (0 : Int32) (0 : Int64)) H := hP1
              have hD : va_D _ (mW g0 gp gr gm gl gw gn cI pv nc tr tm tp mt wv nw re nm np (0 : Int32) (0 : Int64)) := kD_same hD rfl
              refine lv_goto (tgt := 117) hx hb dX1_pass_113 (by decide) ?_
              exact W.iret hx hb hr (fun t ht hW => ⟨by rw [fM_pass, if_neg c8, if_pos c17, if_pos c72, if_pos c79, if_pos c90, if_pos c104] <;> rfl, by rw [ht, fM_pass, if_neg c8, if_pos c17, if_pos c72, if_pos c79, if_pos c90, if_pos c104]; exact hP, hS.F ht⟩) hS.2.2 dX1_pass_117
          · refine lv_aload_n hx hb dX1_pass_93 rfl (lv_at hl 0 rfl) ?_
            refine lv_iconst (v := 0) hx hb dX1_pass_94 (by decide) ?_
            refine lv_lconst (v := 0) hx hb dX1_pass_95 (by decide) ?_
            refine kc_W [.int 0, .long 0] [] ⟨hx, hb, hml, hown, hts⟩ (cM_kept l dC dI g0 gp gr gm gl gw gn cI pv nc tr tm tp mt wv nw re nm np kk kn (0 : Int32) (0 : Int64)) (cwV 2 hts gZ_pass_kept rfl rfl rfl (by decide +kernel) ⟨(Nat.le_of_ble_eq_true rfl), (Nat.le_of_ble_eq_true rfl)⟩) hP hK hD hS rfl (ci := 1) (q0 := 0) rfl rfl rfl rfl hl.1 rfl (Nat.le_of_ble_eq_true rfl) dX1_pass_96 ⟨Nat.zero_le _, Nat.zero_le _⟩ (fun H locs hP1 hS hk1 => ?_)
            have hP : va_P (dC, dI) vwCl (mW g0 gp gr gm gl gw gn cI pv nc tr tm tp mt wv nw re nm np (0 : Int32) (0 : Int64)) H := hP1
            have hD : va_D _ (mW g0 gp gr gm gl gw gn cI pv nc tr tm tp mt wv nw re nm np (0 : Int32) (0 : Int64)) := kD_same hD rfl
            refine lv_goto (tgt := 117) hx hb dX1_pass_99 (by decide) ?_
            exact W.iret hx hb hr (fun t ht hW => ⟨by rw [fM_pass, if_neg c8, if_pos c17, if_pos c72, if_pos c79, if_neg c90] <;> rfl, by rw [ht, fM_pass, if_neg c8, if_pos c17, if_pos c72, if_pos c79, if_neg c90]; exact hP, hS.F ht⟩) hS.2.2 dX1_pass_117
        · refine lv_aload_n hx hb dX1_pass_82 rfl (lv_at hl 0 rfl) ?_
          refine lv_iconst (v := 0) hx hb dX1_pass_83 (by decide) ?_
          refine lv_lconst (v := 0) hx hb dX1_pass_84 (by decide) ?_
          refine kc_W [.int 0, .long 0] [] ⟨hx, hb, hml, hown, hts⟩ (cM_kept l dC dI g0 gp gr gm gl gw gn cI pv nc tr tm tp mt wv nw re nm np kk kn (0 : Int32) (0 : Int64)) (cwV 2 hts gZ_pass_kept rfl rfl rfl (by decide +kernel) ⟨(Nat.le_of_ble_eq_true rfl), (Nat.le_of_ble_eq_true rfl)⟩) hP hK hD hS rfl (ci := 1) (q0 := 0) rfl rfl rfl rfl hl.1 rfl (Nat.le_of_ble_eq_true rfl) dX1_pass_85 ⟨Nat.zero_le _, Nat.zero_le _⟩ (fun H locs hP1 hS hk1 => ?_)
          have hP : va_P (dC, dI) vwCl (mW g0 gp gr gm gl gw gn cI pv nc tr tm tp mt wv nw re nm np (0 : Int32) (0 : Int64)) H := hP1
          have hD : va_D _ (mW g0 gp gr gm gl gw gn cI pv nc tr tm tp mt wv nw re nm np (0 : Int32) (0 : Int64)) := kD_same hD rfl
          exact W.iret hx hb hr (fun t ht hW => ⟨by rw [fM_pass, if_neg c8, if_pos c17, if_pos c72, if_neg c79] <;> rfl, by rw [ht, fM_pass, if_neg c8, if_pos c17, if_pos c72, if_neg c79]; exact hP, hS.F ht⟩) hS.2.2 dX1_pass_88
    · refine lv_iload_n hx hb dX1_pass_20 rfl (lv_at hl 1 rfl) ?_
      refine lv_lload hx hb dX1_pass_21 (lv_at hl 5 rfl) ?_
      refine kc_S [.int x1, .long x5] [] ⟨hx, hb, hml, hown, hts⟩ (cM_isNumber l x1 x5) (cwS 2 hts gZ_pass_isNumber rfl rfl rfl (by decide +kernel) ⟨(Nat.le_of_ble_eq_true rfl), (Nat.le_of_ble_eq_true rfl)⟩) rfl hl.1 rfl (Nat.le_of_ble_eq_true rfl) dX1_pass_23 ⟨Nat.zero_le _, Nat.zero_le _⟩ ?_
      refine lv_if_ne (tgt := 31) hx hb dX1_pass_26 (by decide) (fun c26 => ?_) (fun c26 => ?_)
      · refine lv_iload_n hx hb dX1_pass_31 rfl (lv_at hl 2 rfl) ?_
        refine kc_S [.int x2] [] ⟨hx, hb, hml, hown, hts⟩ (cM_isPlain l x2) (cwS 1 hts gZ_pass_isPlain rfl rfl rfl (by decide +kernel) ⟨(Nat.le_of_ble_eq_true rfl), (Nat.le_of_ble_eq_true rfl)⟩) rfl hl.1 rfl (Nat.le_of_ble_eq_true rfl) dX1_pass_32 ⟨Nat.zero_le _, Nat.zero_le _⟩ ?_
        refine lv_if_eq (tgt := 59) hx hb dX1_pass_35 (by decide) (fun c35 => ?_) (fun c35 => ?_)
        · refine lv_aload_n hx hb dX1_pass_59 rfl (lv_at hl 0 rfl) ?_
          refine lv_iload_n hx hb dX1_pass_60 rfl (lv_at hl 1 rfl) ?_
          refine lv_bipush (v := 8) hx hb dX1_pass_61 (by decide) ?_
          refine lv_iadd hx hb dX1_pass_63 ?_
          refine lv_lload hx hb dX1_pass_64 (lv_at hl 5 rfl) ?_
          refine kc_W [.int (x1 + (8 : Int32)), .long x5] [] ⟨hx, hb, hml, hown, hts⟩ (cM_kept l dC dI g0 gp gr gm gl gw gn cI pv nc tr tm tp mt wv nw re nm np kk kn (x1 + (8 : Int32)) x5) (cwV 2 hts gZ_pass_kept rfl rfl rfl (by decide +kernel) ⟨(Nat.le_of_ble_eq_true rfl), (Nat.le_of_ble_eq_true rfl)⟩) hP hK hD hS rfl (ci := 1) (q0 := 0) rfl rfl rfl rfl hl.1 rfl (Nat.le_of_ble_eq_true rfl) dX1_pass_66 ⟨Nat.zero_le _, Nat.zero_le _⟩ (fun H locs hP1 hS hk1 => ?_)
          have hP : va_P (dC, dI) vwCl (mW g0 gp gr gm gl gw gn cI pv nc tr tm tp mt wv nw re nm np (x1 + (8 : Int32)) x5) H := hP1
          have hD : va_D _ (mW g0 gp gr gm gl gw gn cI pv nc tr tm tp mt wv nw re nm np (x1 + (8 : Int32)) x5) := kD_same hD rfl
          exact W.iret hx hb hr (fun t ht hW => ⟨by rw [fM_pass, if_neg c8, if_neg c17, if_neg c26, if_pos c35] <;> rfl, by rw [ht, fM_pass, if_neg c8, if_neg c17, if_neg c26, if_pos c35]; exact hP, hS.F ht⟩) hS.2.2 dX1_pass_69
        · refine lv_aload_n hx hb dX1_pass_38 rfl (lv_at hl 0 rfl) ?_
          refine lv_iconst (v := 0) hx hb dX1_pass_39 (by decide) ?_
          refine lv_iload_n hx hb dX1_pass_40 rfl (lv_at hl 3 rfl) ?_
          refine lv_if_eq (tgt := 53) hx hb dX1_pass_41 (by decide) (fun c41 => ?_) (fun c41 => ?_)
          · refine lv_lload hx hb dX1_pass_53 (lv_at hl 5 rfl) ?_
            refine kc_W [.int 0, .long x5] [] ⟨hx, hb, hml, hown, hts⟩ (cM_kept l dC dI g0 gp gr gm gl gw gn cI pv nc tr tm tp mt wv nw re nm np kk kn (0 : Int32) x5) (cwV 2 hts gZ_pass_kept rfl rfl rfl (by decide +kernel) ⟨(Nat.le_of_ble_eq_true rfl), (Nat.le_of_ble_eq_true rfl)⟩) hP hK hD hS rfl (ci := 1) (q0 := 0) rfl rfl rfl rfl hl.1 rfl (Nat.le_of_ble_eq_true rfl) dX1_pass_55 ⟨Nat.zero_le _, Nat.zero_le _⟩ (fun H locs hP1 hS hk1 => ?_)
            have hP : va_P (dC, dI) vwCl (mW g0 gp gr gm gl gw gn cI pv nc tr tm tp mt wv nw re nm np (0 : Int32) x5) H := hP1
            have hD : va_D _ (mW g0 gp gr gm gl gw gn cI pv nc tr tm tp mt wv nw re nm np (0 : Int32) x5) := kD_same hD rfl
            exact W.iret hx hb hr (fun t ht hW => ⟨by rw [fM_pass, if_neg c8, if_neg c17, if_neg c26, if_neg c35, if_pos c41] <;> rfl, by rw [ht, fM_pass, if_neg c8, if_neg c17, if_neg c26, if_neg c35, if_pos c41]; exact hP, hS.F ht⟩) hS.2.2 dX1_pass_58
          · refine lv_iload_n hx hb dX1_pass_44 rfl (lv_at hl 2 rfl) ?_
            refine lv_lload hx hb dX1_pass_45 (lv_at hl 5 rfl) ?_
            refine kc_S [.int x2, .long x5] [.int 0, .ref g0] ⟨hx, hb, hml, hown, hts⟩ (cM_forcedTo l x2 x5) (cwS 2 hts gZ_pass_forcedTo rfl rfl rfl (by decide +kernel) ⟨(Nat.le_of_ble_eq_true rfl), (Nat.le_of_ble_eq_true rfl)⟩) rfl hl.1 rfl (Nat.le_of_ble_eq_true rfl) dX1_pass_47 ⟨Nat.zero_le _, Nat.zero_le _⟩ ?_
            refine lv_goto (tgt := 55) hx hb dX1_pass_50 (by decide) ?_
            refine kc_W [.int 0, .long (fM_forcedTo x2 x5)] [] ⟨hx, hb, hml, hown, hts⟩ (cM_kept l dC dI g0 gp gr gm gl gw gn cI pv nc tr tm tp mt wv nw re nm np kk kn (0 : Int32) (fM_forcedTo x2 x5)) (cwV 2 hts gZ_pass_kept rfl rfl rfl (by decide +kernel) ⟨(Nat.le_of_ble_eq_true rfl), (Nat.le_of_ble_eq_true rfl)⟩) hP hK hD hS rfl (ci := 1) (q0 := 0) rfl rfl rfl rfl hl.1 rfl (Nat.le_of_ble_eq_true rfl) dX1_pass_55 ⟨Nat.zero_le _, Nat.zero_le _⟩ (fun H locs hP1 hS hk1 => ?_)
            have hP : va_P (dC, dI) vwCl (mW g0 gp gr gm gl gw gn cI pv nc tr tm tp mt wv nw re nm np (0 : Int32) (fM_forcedTo x2 x5)) H := hP1
            have hD : va_D _ (mW g0 gp gr gm gl gw gn cI pv nc tr tm tp mt wv nw re nm np (0 : Int32) (fM_forcedTo x2 x5)) := kD_same hD rfl
            exact W.iret hx hb hr (fun t ht hW => ⟨by rw [fM_pass, if_neg c8, if_neg c17, if_neg c26, if_neg c35, if_neg c41] <;> rfl, by rw [ht, fM_pass, if_neg c8, if_neg c17, if_neg c26, if_neg c35, if_neg c41]; exact hP, hS.F ht⟩) hS.2.2 dX1_pass_58
      · refine lv_iconst (v := -1) hx hb dX1_pass_29 (by decide) ?_
        exact W.iret hx hb hr (fun t ht hW => ⟨by rw [fM_pass, if_neg c8, if_neg c17, if_pos c26] <;> rfl, by rw [ht, fM_pass, if_neg c8, if_neg c17, if_pos c26]; exact hP, hS.F ht⟩) hS.2.2 dX1_pass_30
  · refine lv_iconst (v := -1) hx hb dX1_pass_11 (by decide) ?_
    exact W.iret hx hb hr (fun t ht hW => ⟨by rw [fM_pass, if_pos c8] <;> rfl, by rw [ht, fM_pass, if_pos c8]; exact hP, hS.F ht⟩) hS.2.2 dX1_pass_12
def fM_put (wv : Nat → Int32) (nw : Nat) (x1 : Int32) : Bool × (Nat → Int32) × Nat := if (nI nw) = (20 : Int32) then (false, wv, nw) else (true, (upd wv (nI nw).toNatClampNeg x1), (nw + 1))
set_option maxHeartbeats 4000000 in
set_option maxRecDepth 100000 in
theorem cM_put (l : Launch) (dC : Nat → ClassId) (dI : Nat → Nat → Nat) (g0 gp gr gm gl gw gn : Nat) (cI : ClassId) (pv : Nat → Int32) (nc : Nat) (tr : Nat → Int32) (tm : Nat → Int32) (tp : Nat → Int32) (mt : Nat) (wv : Nat → Int32) (nw : Nat) (re : Int32) (nm : Nat) (np : Nat → Int32) (kk : Int32) (kn : Int64) (x1 : Int32) (hnw : nw ≤ 20) : Met l yX1_put wsZ1_put ({ frames := 0, cells := 0, slots := 0, locals := 0 }) (kPw (dC, dI) vwCl [(cI, .int)] (mW g0 gp gr gm gl gw gn cI pv nc tr tm tp mt wv nw re nm np kk kn) [.ref g0, .int x1]) (kQw (dC, dI) vwCl (some (.int (bI ((fM_put wv nw x1).1)))) (mW g0 gp gr gm gl gw gn cI pv nc tr tm tp mt ((fM_put wv nw x1).2.1) ((fM_put wv nw x1).2.2) re nm np kk kn) [g0, gp, gr, gm, gl, gw, gn]) 0 0 (fun q => q ∈ [g0, gp, gr, gm, gl, gw, gn]) := by
  refine Met.ofW (cc := cX1_put) (maxL := 2) (ret := (some .boolean)) (by decide) rfl ?_
  intro p e s m args below meth c s₁ B hml hv
  obtain ⟨rfl, hP, hK, hD0⟩ := hv
  have hx := B.exec
  have hb := B.bytes
  have hr := B.returns
  have hts := atoms_spec (ws := wsZ1_put) B.pre
  have hown : s.vm.findClass RX1 = some m.cls := findClass_of_methodNamed B.named
  have hlocks := B.notSynchronized
  have hin : ∀ w ∈ u_ws RX1 TX1 13, w ∈ wsZ1_put := fun w h => List.mem_cons_of_mem _ (inZ1 w h)
  have hD : va_D (fun q => q ∈ [g0, gp, gr, gm, gl, gw, gn]) (mW g0 gp gr gm gl gw gn cI pv nc tr tm tp mt wv nw re nm np kk kn) := kD_self hD0 rfl
  have hS : va_S (fun q => q ∈ [g0, gp, gr, gm, gl, gw, gn]) s.heap s.heap [] := va_S.rf
  have hl := lv_entry ([.ref g0, .int x1]) (n := 2) (Nat.le_of_ble_eq_true rfl)
  rw [lg_entry_eq]
  generalize (lg_sl ([.ref g0, .int x1]) ++ List.replicate (2 - (lg_sl ([.ref g0, .int x1])).length) Slot.unset).toArray = ls at hl ⊢
  have hl : lv_has ls 2 [(0, .ref g0), (1, .int x1)] := hl
  refine lv_aload_n hx hb dX1_put_0 rfl (lv_at hl 0 rfl) ?_
  refine va_get (D := (dC, dI)) (ci := 1) (v := .int (nI nw)) (C := RX1) (T := TX1) (N := 13) hx hb hts hin hown hK hP 0 rfl rfl 7 (by decide) (hts _ (List.mem_cons_of_mem _ tk_fl_96)) (fun _ h9 => h9) rfl dX1_put_1 ?_
  refine lv_bipush (v := 20) hx hb dX1_put_4 (by decide) ?_
  refine lv_icmp_ne (tgt := 11) hx hb dX1_put_6 (by decide) (fun c6 => ?_) (fun c6 => ?_)
  · refine lv_aload_n hx hb dX1_put_11 rfl (lv_at hl 0 rfl) ?_
    refine va_get (D := (dC, dI)) (ci := 1) (v := .ref gw) (C := RX1) (T := TX1) (N := 13) hx hb hts hin hown hK hP 0 rfl rfl 6 (by decide) (hts _ (List.mem_cons_of_mem _ tk_fl_22)) (fun _ h9 => h9) rfl dX1_put_12 ?_
    refine lv_aload_n hx hb dX1_put_15 rfl (lv_at hl 0 rfl) ?_
    refine va_get (D := (dC, dI)) (ci := 1) (v := .int (nI nw)) (C := RX1) (T := TX1) (N := 13) hx hb hts hin hown hK hP 0 rfl rfl 7 (by decide) (hts _ (List.mem_cons_of_mem _ tk_fl_96)) (fun _ h9 => h9) rfl dX1_put_16 ?_
    refine lv_iload_n hx hb dX1_put_19 rfl (lv_at hl 1 rfl) ?_
    refine va_iast hx hb hK hP hD hS 5 0 rfl rfl (mnw_in hnw c6) dX1_put_20 (fun H locs hP hD hS => ?_)
    have hP : va_P (dC, dI) vwCl (mW g0 gp gr gm gl gw gn cI pv nc tr tm tp mt (upd wv (nI nw).toNatClampNeg x1) nw re nm np kk kn) H := hP
    have hD : va_D _ (mW g0 gp gr gm gl gw gn cI pv nc tr tm tp mt (upd wv (nI nw).toNatClampNeg x1) nw re nm np kk kn) := hD
    refine lv_aload_n hx hb dX1_put_21 rfl (lv_at hl 0 rfl) ?_
    refine lv_dup hx hb dX1_put_22 rfl ?_
    refine va_get (D := (dC, dI)) (ci := 1) (v := .int (nI nw)) (C := RX1) (T := TX1) (N := 13) hx hb hts hin hown hK hP 0 rfl rfl 7 (by decide) (hts _ (List.mem_cons_of_mem _ tk_fl_96)) (fun _ h9 => h9) rfl dX1_put_23 ?_
    refine lv_iconst (v := 1) hx hb dX1_put_26 (by decide) ?_
    refine lv_iadd hx hb dX1_put_27 ?_
    refine kv_topi (y := nI (nw + 1)) (nI_1 nw) ?_
    refine va_put (D := (dC, dI)) (ci := 1) (v := .int (nI (nw + 1))) (ty := .int) (C := RX1) (T := TX1) (N := 13) hx hb hts hin tyX1 tyX1_ok nmX1 hown hK hP hD hS 0 rfl rfl 7 (by decide) (hts _ (List.mem_cons_of_mem _ tk_fl_96)) (fun _ h9 => h9) rfl (by decide +kernel) rfl rfl (Nat.le_of_ble_eq_true rfl) dX1_put_28 (fun H locs hP hD hS => ?_)
    have hP : va_P (dC, dI) vwCl (mW g0 gp gr gm gl gw gn cI pv nc tr tm tp mt (upd wv (nI nw).toNatClampNeg x1) (nw + 1) re nm np kk kn) H := hP
    have hD : va_D _ (mW g0 gp gr gm gl gw gn cI pv nc tr tm tp mt (upd wv (nI nw).toNatClampNeg x1) (nw + 1) re nm np kk kn) := hD
    refine lv_iconst (v := 1) hx hb dX1_put_31 (by decide) ?_
    exact W.zret hx hb hr rfl (fun t ht hW => ⟨by rw [fM_put, if_neg c6] <;> rfl, by rw [ht, fM_put, if_neg c6]; exact hP, hS.F ht⟩) hS.2.2 dX1_put_32
  · refine lv_iconst (v := 0) hx hb dX1_put_9 (by decide) ?_
    exact W.zret hx hb hr rfl (fun t ht hW => ⟨by rw [fM_put, if_pos c6] <;> rfl, by rw [ht, fM_put, if_pos c6]; exact hP, hS.F ht⟩) hS.2.2 dX1_put_10
def fM_newClass (pv : Nat → Int32) (nc : Nat) (x1 : Int32) : Int32 × (Nat → Int32) × Nat := if (nI nc) = (12 : Int32) then ((-1 : Int32), pv, nc) else if x1 = (7 : Int32) then (nI (20 + nc), (upd pv (nI nc).toNatClampNeg x1), (nc + 1)) else if x1 = (19 : Int32) then (nI (20 + nc), (upd pv (nI nc).toNatClampNeg x1), (nc + 1)) else if x1 < (20 : Int32) then ((-1 : Int32), pv, nc) else if (bI (fM_isKind nc x1)) = 0 then ((-1 : Int32), pv, nc) else (nI (20 + nc), (upd pv (nI nc).toNatClampNeg x1), (nc + 1))
set_option maxHeartbeats 4000000 in
set_option maxRecDepth 100000 in
theorem cM_newClass (l : Launch) (dC : Nat → ClassId) (dI : Nat → Nat → Nat) (g0 gp gr gm gl gw gn : Nat) (cI : ClassId) (pv : Nat → Int32) (nc : Nat) (tr : Nat → Int32) (tm : Nat → Int32) (tp : Nat → Int32) (mt : Nat) (wv : Nat → Int32) (nw : Nat) (re : Int32) (nm : Nat) (np : Nat → Int32) (kk : Int32) (kn : Int64) (x1 : Int32) (hnc : nc ≤ 12) : Met l yX1_newClass wsZ1_newClass ({ frames := 1, cells := 0, slots := 0, locals := 21 }) (kPw (dC, dI) vwCl [(cI, .int)] (mW g0 gp gr gm gl gw gn cI pv nc tr tm tp mt wv nw re nm np kk kn) [.ref g0, .int x1]) (kQw (dC, dI) vwCl (some (.int ((fM_newClass pv nc x1).1))) (mW g0 gp gr gm gl gw gn cI ((fM_newClass pv nc x1).2.1) ((fM_newClass pv nc x1).2.2) tr tm tp mt wv nw re nm np kk kn) [g0, gp, gr, gm, gl, gw, gn]) 0 0 (fun q => q ∈ [g0, gp, gr, gm, gl, gw, gn]) := by
  refine Met.ofW (cc := cX1_newClass) (maxL := 2) (ret := (some .int)) (by decide) rfl ?_
  intro p e s m args below meth c s₁ B hml hv
  obtain ⟨rfl, hP, hK, hD0⟩ := hv
  have hx := B.exec
  have hb := B.bytes
  have hr := B.returns
  have hts := atoms_spec (ws := wsZ1_newClass) B.pre
  have hown : s.vm.findClass RX1 = some m.cls := findClass_of_methodNamed B.named
  have hlocks := B.notSynchronized
  have hin : ∀ w ∈ u_ws RX1 TX1 13, w ∈ wsZ1_newClass := fun w h => List.mem_cons_of_mem _ (inZ1 w h)
  have hD : va_D (fun q => q ∈ [g0, gp, gr, gm, gl, gw, gn]) (mW g0 gp gr gm gl gw gn cI pv nc tr tm tp mt wv nw re nm np kk kn) := kD_self hD0 rfl
  have hS : va_S (fun q => q ∈ [g0, gp, gr, gm, gl, gw, gn]) s.heap s.heap [] := va_S.rf
  have hl := lv_entry ([.ref g0, .int x1]) (n := 2) (Nat.le_of_ble_eq_true rfl)
  rw [lg_entry_eq]
  generalize (lg_sl ([.ref g0, .int x1]) ++ List.replicate (2 - (lg_sl ([.ref g0, .int x1])).length) Slot.unset).toArray = ls at hl ⊢
  have hl : lv_has ls 2 [(0, .ref g0), (1, .int x1)] := hl
  refine lv_aload_n hx hb dX1_newClass_0 rfl (lv_at hl 0 rfl) ?_
  refine va_get (D := (dC, dI)) (ci := 1) (v := .int (nI nc)) (C := RX1) (T := TX1) (N := 13) hx hb hts hin hown hK hP 0 rfl rfl 1 (by decide) (hts _ (List.mem_cons_of_mem _ tk_fl_28)) (fun _ h9 => h9) rfl dX1_newClass_1 ?_
  refine lv_bipush (v := 12) hx hb dX1_newClass_4 (by decide) ?_
  refine lv_icmp_eq (tgt := 35) hx hb dX1_newClass_6 (by decide) (fun c6 => ?_) (fun c6 => ?_)
  · refine lv_iconst (v := -1) hx hb dX1_newClass_35 (by decide) ?_
    exact W.iret hx hb hr (fun t ht hW => ⟨by rw [fM_newClass, if_pos c6] <;> rfl, by rw [ht, fM_newClass, if_pos c6]; exact hP, hS.F ht⟩) hS.2.2 dX1_newClass_36
  · refine lv_iload_n hx hb dX1_newClass_9 rfl (lv_at hl 1 rfl) ?_
    refine lv_bipush (v := 7) hx hb dX1_newClass_10 (by decide) ?_
    refine lv_icmp_eq (tgt := 37) hx hb dX1_newClass_12 (by decide) (fun c12 => ?_) (fun c12 => ?_)
    · refine lv_aload_n hx hb dX1_newClass_37 rfl (lv_at hl 0 rfl) ?_
      refine va_get (D := (dC, dI)) (ci := 1) (v := .ref gp) (C := RX1) (T := TX1) (N := 13) hx hb hts hin hown hK hP 0 rfl rfl 0 (by decide) (hts _ (List.mem_cons_of_mem _ tk_fl_7)) (fun _ h9 => h9) rfl dX1_newClass_38 ?_
      refine lv_aload_n hx hb dX1_newClass_41 rfl (lv_at hl 0 rfl) ?_
      refine va_get (D := (dC, dI)) (ci := 1) (v := .int (nI nc)) (C := RX1) (T := TX1) (N := 13) hx hb hts hin hown hK hP 0 rfl rfl 1 (by decide) (hts _ (List.mem_cons_of_mem _ tk_fl_28)) (fun _ h9 => h9) rfl dX1_newClass_42 ?_
      refine lv_iload_n hx hb dX1_newClass_45 rfl (lv_at hl 1 rfl) ?_
      refine va_iast hx hb hK hP hD hS 1 0 rfl rfl (mnc_in hnc c6) dX1_newClass_46 (fun H locs hP hD hS => ?_)
      have hP : va_P (dC, dI) vwCl (mW g0 gp gr gm gl gw gn cI (upd pv (nI nc).toNatClampNeg x1) nc tr tm tp mt wv nw re nm np kk kn) H := hP
      have hD : va_D _ (mW g0 gp gr gm gl gw gn cI (upd pv (nI nc).toNatClampNeg x1) nc tr tm tp mt wv nw re nm np kk kn) := hD
      refine lv_aload_n hx hb dX1_newClass_47 rfl (lv_at hl 0 rfl) ?_
      refine lv_dup hx hb dX1_newClass_48 rfl ?_
      refine va_get (D := (dC, dI)) (ci := 1) (v := .int (nI nc)) (C := RX1) (T := TX1) (N := 13) hx hb hts hin hown hK hP 0 rfl rfl 1 (by decide) (hts _ (List.mem_cons_of_mem _ tk_fl_28)) (fun _ h9 => h9) rfl dX1_newClass_49 ?_
      refine lv_iconst (v := 1) hx hb dX1_newClass_52 (by decide) ?_
      refine lv_iadd hx hb dX1_newClass_53 ?_
      refine kv_topi (y := nI (nc + 1)) (nI_1 nc) ?_
      refine va_put (D := (dC, dI)) (ci := 1) (v := .int (nI (nc + 1))) (ty := .int) (C := RX1) (T := TX1) (N := 13) hx hb hts hin tyX1 tyX1_ok nmX1 hown hK hP hD hS 0 rfl rfl 1 (by decide) (hts _ (List.mem_cons_of_mem _ tk_fl_28)) (fun _ h9 => h9) rfl (by decide +kernel) rfl rfl (Nat.le_of_ble_eq_true rfl) dX1_newClass_54 (fun H locs hP hD hS => ?_)
      have hP : va_P (dC, dI) vwCl (mW g0 gp gr gm gl gw gn cI (upd pv (nI nc).toNatClampNeg x1) (nc + 1) tr tm tp mt wv nw re nm np kk kn) H := hP
      have hD : va_D _ (mW g0 gp gr gm gl gw gn cI (upd pv (nI nc).toNatClampNeg x1) (nc + 1) tr tm tp mt wv nw re nm np kk kn) := hD
      refine lv_bipush (v := 20) hx hb dX1_newClass_57 (by decide) ?_
      refine lv_aload_n hx hb dX1_newClass_59 rfl (lv_at hl 0 rfl) ?_
      refine va_get (D := (dC, dI)) (ci := 1) (v := .int (nI (nc + 1))) (C := RX1) (T := TX1) (N := 13) hx hb hts hin hown hK hP 0 rfl rfl 1 (by decide) (hts _ (List.mem_cons_of_mem _ tk_fl_28)) (fun _ h9 => h9) rfl dX1_newClass_60 ?_
      refine lv_iadd hx hb dX1_newClass_63 ?_
      refine lv_iconst (v := 1) hx hb dX1_newClass_64 (by decide) ?_
      refine lv_isub hx hb dX1_newClass_65 ?_
      refine kv_topi (y := nI (20 + nc)) (mnc_r nc) ?_
      exact W.iret hx hb hr (fun t ht hW => ⟨by rw [fM_newClass, if_neg c6, if_pos c12] <;> rfl, by rw [ht, fM_newClass, if_neg c6, if_pos c12]; exact hP, hS.F ht⟩) hS.2.2 dX1_newClass_66
    · refine lv_iload_n hx hb dX1_newClass_15 rfl (lv_at hl 1 rfl) ?_
      refine lv_bipush (v := 19) hx hb dX1_newClass_16 (by decide) ?_
      refine lv_icmp_eq (tgt := 37) hx hb dX1_newClass_18 (by decide) (fun c18 => ?_) (fun c18 => ?_)
      · refine lv_aload_n hx hb dX1_newClass_37 rfl (lv_at hl 0 rfl) ?_
        refine va_get (D := (dC, dI)) (ci := 1) (v := .ref gp) (C := RX1) (T := TX1) (N := 13) hx hb hts hin hown hK hP 0 rfl rfl 0 (by decide) (hts _ (List.mem_cons_of_mem _ tk_fl_7)) (fun _ h9 => h9) rfl dX1_newClass_38 ?_
        refine lv_aload_n hx hb dX1_newClass_41 rfl (lv_at hl 0 rfl) ?_
        refine va_get (D := (dC, dI)) (ci := 1) (v := .int (nI nc)) (C := RX1) (T := TX1) (N := 13) hx hb hts hin hown hK hP 0 rfl rfl 1 (by decide) (hts _ (List.mem_cons_of_mem _ tk_fl_28)) (fun _ h9 => h9) rfl dX1_newClass_42 ?_
        refine lv_iload_n hx hb dX1_newClass_45 rfl (lv_at hl 1 rfl) ?_
        refine va_iast hx hb hK hP hD hS 1 0 rfl rfl (mnc_in hnc c6) dX1_newClass_46 (fun H locs hP hD hS => ?_)
        have hP : va_P (dC, dI) vwCl (mW g0 gp gr gm gl gw gn cI (upd pv (nI nc).toNatClampNeg x1) nc tr tm tp mt wv nw re nm np kk kn) H := hP
        have hD : va_D _ (mW g0 gp gr gm gl gw gn cI (upd pv (nI nc).toNatClampNeg x1) nc tr tm tp mt wv nw re nm np kk kn) := hD
        refine lv_aload_n hx hb dX1_newClass_47 rfl (lv_at hl 0 rfl) ?_
        refine lv_dup hx hb dX1_newClass_48 rfl ?_
        refine va_get (D := (dC, dI)) (ci := 1) (v := .int (nI nc)) (C := RX1) (T := TX1) (N := 13) hx hb hts hin hown hK hP 0 rfl rfl 1 (by decide) (hts _ (List.mem_cons_of_mem _ tk_fl_28)) (fun _ h9 => h9) rfl dX1_newClass_49 ?_
        refine lv_iconst (v := 1) hx hb dX1_newClass_52 (by decide) ?_
        refine lv_iadd hx hb dX1_newClass_53 ?_
        refine kv_topi (y := nI (nc + 1)) (nI_1 nc) ?_
        refine va_put (D := (dC, dI)) (ci := 1) (v := .int (nI (nc + 1))) (ty := .int) (C := RX1) (T := TX1) (N := 13) hx hb hts hin tyX1 tyX1_ok nmX1 hown hK hP hD hS 0 rfl rfl 1 (by decide) (hts _ (List.mem_cons_of_mem _ tk_fl_28)) (fun _ h9 => h9) rfl (by decide +kernel) rfl rfl (Nat.le_of_ble_eq_true rfl) dX1_newClass_54 (fun H locs hP hD hS => ?_)
        have hP : va_P (dC, dI) vwCl (mW g0 gp gr gm gl gw gn cI (upd pv (nI nc).toNatClampNeg x1) (nc + 1) tr tm tp mt wv nw re nm np kk kn) H := hP
        have hD : va_D _ (mW g0 gp gr gm gl gw gn cI (upd pv (nI nc).toNatClampNeg x1) (nc + 1) tr tm tp mt wv nw re nm np kk kn) := hD
        refine lv_bipush (v := 20) hx hb dX1_newClass_57 (by decide) ?_
        refine lv_aload_n hx hb dX1_newClass_59 rfl (lv_at hl 0 rfl) ?_
        refine va_get (D := (dC, dI)) (ci := 1) (v := .int (nI (nc + 1))) (C := RX1) (T := TX1) (N := 13) hx hb hts hin hown hK hP 0 rfl rfl 1 (by decide) (hts _ (List.mem_cons_of_mem _ tk_fl_28)) (fun _ h9 => h9) rfl dX1_newClass_60 ?_
        refine lv_iadd hx hb dX1_newClass_63 ?_
        refine lv_iconst (v := 1) hx hb dX1_newClass_64 (by decide) ?_
        refine lv_isub hx hb dX1_newClass_65 ?_
        refine kv_topi (y := nI (20 + nc)) (mnc_r nc) ?_
        exact W.iret hx hb hr (fun t ht hW => ⟨by rw [fM_newClass, if_neg c6, if_neg c12, if_pos c18] <;> rfl, by rw [ht, fM_newClass, if_neg c6, if_neg c12, if_pos c18]; exact hP, hS.F ht⟩) hS.2.2 dX1_newClass_66
      · refine lv_iload_n hx hb dX1_newClass_21 rfl (lv_at hl 1 rfl) ?_
        refine lv_bipush (v := 20) hx hb dX1_newClass_22 (by decide) ?_
        refine lv_icmp_lt (tgt := 35) hx hb dX1_newClass_24 (by decide) (fun c24 => ?_) (fun c24 => ?_)
        · refine lv_iconst (v := -1) hx hb dX1_newClass_35 (by decide) ?_
          exact W.iret hx hb hr (fun t ht hW => ⟨by rw [fM_newClass, if_neg c6, if_neg c12, if_neg c18, if_pos c24] <;> rfl, by rw [ht, fM_newClass, if_neg c6, if_neg c12, if_neg c18, if_pos c24]; exact hP, hS.F ht⟩) hS.2.2 dX1_newClass_36
        · refine lv_aload_n hx hb dX1_newClass_27 rfl (lv_at hl 0 rfl) ?_
          refine lv_iload_n hx hb dX1_newClass_28 rfl (lv_at hl 1 rfl) ?_
          refine kc_R [.int x1] [] ⟨hx, hb, hml, hown, hts⟩ (cM_isKind l dC dI g0 gp gr gm gl gw gn cI pv nc tr tm tp mt wv nw re nm np kk kn x1) (cwV 1 hts gZ_newClass_isKind rfl rfl rfl (by decide +kernel) ⟨(Nat.le_of_ble_eq_true rfl), (Nat.le_of_ble_eq_true rfl)⟩) hP hK (ci := 1) (q0 := 0) rfl rfl rfl rfl hl.1 rfl (Nat.le_of_ble_eq_true rfl) dX1_newClass_29 ⟨Nat.zero_le _, Nat.zero_le _⟩ ?_
          refine lv_if_ne (tgt := 37) hx hb dX1_newClass_32 (by decide) (fun c32 => ?_) (fun c32 => ?_)
          · refine lv_aload_n hx hb dX1_newClass_37 rfl (lv_at hl 0 rfl) ?_
            refine va_get (D := (dC, dI)) (ci := 1) (v := .ref gp) (C := RX1) (T := TX1) (N := 13) hx hb hts hin hown hK hP 0 rfl rfl 0 (by decide) (hts _ (List.mem_cons_of_mem _ tk_fl_7)) (fun _ h9 => h9) rfl dX1_newClass_38 ?_
            refine lv_aload_n hx hb dX1_newClass_41 rfl (lv_at hl 0 rfl) ?_
            refine va_get (D := (dC, dI)) (ci := 1) (v := .int (nI nc)) (C := RX1) (T := TX1) (N := 13) hx hb hts hin hown hK hP 0 rfl rfl 1 (by decide) (hts _ (List.mem_cons_of_mem _ tk_fl_28)) (fun _ h9 => h9) rfl dX1_newClass_42 ?_
            refine lv_iload_n hx hb dX1_newClass_45 rfl (lv_at hl 1 rfl) ?_
            refine va_iast hx hb hK hP hD hS 1 0 rfl rfl (mnc_in hnc c6) dX1_newClass_46 (fun H locs hP hD hS => ?_)
            have hP : va_P (dC, dI) vwCl (mW g0 gp gr gm gl gw gn cI (upd pv (nI nc).toNatClampNeg x1) nc tr tm tp mt wv nw re nm np kk kn) H := hP
            have hD : va_D _ (mW g0 gp gr gm gl gw gn cI (upd pv (nI nc).toNatClampNeg x1) nc tr tm tp mt wv nw re nm np kk kn) := hD
            refine lv_aload_n hx hb dX1_newClass_47 rfl (lv_at hl 0 rfl) ?_
            refine lv_dup hx hb dX1_newClass_48 rfl ?_
            refine va_get (D := (dC, dI)) (ci := 1) (v := .int (nI nc)) (C := RX1) (T := TX1) (N := 13) hx hb hts hin hown hK hP 0 rfl rfl 1 (by decide) (hts _ (List.mem_cons_of_mem _ tk_fl_28)) (fun _ h9 => h9) rfl dX1_newClass_49 ?_
            refine lv_iconst (v := 1) hx hb dX1_newClass_52 (by decide) ?_
            refine lv_iadd hx hb dX1_newClass_53 ?_
            refine kv_topi (y := nI (nc + 1)) (nI_1 nc) ?_
            refine va_put (D := (dC, dI)) (ci := 1) (v := .int (nI (nc + 1))) (ty := .int) (C := RX1) (T := TX1) (N := 13) hx hb hts hin tyX1 tyX1_ok nmX1 hown hK hP hD hS 0 rfl rfl 1 (by decide) (hts _ (List.mem_cons_of_mem _ tk_fl_28)) (fun _ h9 => h9) rfl (by decide +kernel) rfl rfl (Nat.le_of_ble_eq_true rfl) dX1_newClass_54 (fun H locs hP hD hS => ?_)
            have hP : va_P (dC, dI) vwCl (mW g0 gp gr gm gl gw gn cI (upd pv (nI nc).toNatClampNeg x1) (nc + 1) tr tm tp mt wv nw re nm np kk kn) H := hP
            have hD : va_D _ (mW g0 gp gr gm gl gw gn cI (upd pv (nI nc).toNatClampNeg x1) (nc + 1) tr tm tp mt wv nw re nm np kk kn) := hD
            refine lv_bipush (v := 20) hx hb dX1_newClass_57 (by decide) ?_
            refine lv_aload_n hx hb dX1_newClass_59 rfl (lv_at hl 0 rfl) ?_
            refine va_get (D := (dC, dI)) (ci := 1) (v := .int (nI (nc + 1))) (C := RX1) (T := TX1) (N := 13) hx hb hts hin hown hK hP 0 rfl rfl 1 (by decide) (hts _ (List.mem_cons_of_mem _ tk_fl_28)) (fun _ h9 => h9) rfl dX1_newClass_60 ?_
            refine lv_iadd hx hb dX1_newClass_63 ?_
            refine lv_iconst (v := 1) hx hb dX1_newClass_64 (by decide) ?_
            refine lv_isub hx hb dX1_newClass_65 ?_
            refine kv_topi (y := nI (20 + nc)) (mnc_r nc) ?_
            exact W.iret hx hb hr (fun t ht hW => ⟨by rw [fM_newClass, if_neg c6, if_neg c12, if_neg c18, if_neg c24, if_neg c32] <;> rfl, by rw [ht, fM_newClass, if_neg c6, if_neg c12, if_neg c18, if_neg c24, if_neg c32]; exact hP, hS.F ht⟩) hS.2.2 dX1_newClass_66
          · refine lv_iconst (v := -1) hx hb dX1_newClass_35 (by decide) ?_
            exact W.iret hx hb hr (fun t ht hW => ⟨by rw [fM_newClass, if_neg c6, if_neg c12, if_neg c18, if_neg c24, if_pos c32] <;> rfl, by rw [ht, fM_newClass, if_neg c6, if_neg c12, if_neg c18, if_neg c24, if_pos c32]; exact hP, hS.F ht⟩) hS.2.2 dX1_newClass_36
def fM_typeAbout (tr : Nat → Int32) (tm : Nat → Int32) (tp : Nat → Int32) (mt : Nat) (x1 : Int32) (x2 : Int32) : Int32 := if (bI (fM_isType mt x1)) = 0 then (-1 : Int32) else if x2 = (-1 : Int32) then tr x1.toNatClampNeg else if x2 = (-2 : Int32) then tm x1.toNatClampNeg else if x2 < 0 then (-1 : Int32) else if (tm x1.toNatClampNeg) ≤ x2 then (-1 : Int32) else tp (((10 : Int32) * x1) + x2).toNatClampNeg
set_option maxHeartbeats 4000000 in
set_option maxRecDepth 100000 in
theorem cM_typeAbout (l : Launch) (dC : Nat → ClassId) (dI : Nat → Nat → Nat) (g0 gp gr gm gl gw gn : Nat) (cI : ClassId) (pv : Nat → Int32) (nc : Nat) (tr : Nat → Int32) (tm : Nat → Int32) (tp : Nat → Int32) (mt : Nat) (wv : Nat → Int32) (nw : Nat) (re : Int32) (nm : Nat) (np : Nat → Int32) (kk : Int32) (kn : Int64) (tM : Nat → Nat) (x1 : Int32) (x2 : Int32) (hmt : mt ≤ 300) (hTM : kTM tm tM mt) : Met l yX1_typeAbout wsZ1_typeAbout ({ frames := 1, cells := 0, slots := 0, locals := 21 }) (kPr (dC, dI) vwCl [(cI, .int)] (mW g0 gp gr gm gl gw gn cI pv nc tr tm tp mt wv nw re nm np kk kn) [.ref g0, .int x1, .int x2]) (k2_QcV (.int (fM_typeAbout tr tm tp mt x1 x2))) 0 0 kNo := by
  refine Met.ofW (cc := cX1_typeAbout) (maxL := 3) (ret := (some .int)) (by decide) rfl ?_
  intro p e s m args below meth c s₁ B hml hv
  obtain ⟨rfl, hP, hK⟩ := hv
  have hx := B.exec
  have hb := B.bytes
  have hr := B.returns
  have hts := atoms_spec (ws := wsZ1_typeAbout) B.pre
  have hown : s.vm.findClass RX1 = some m.cls := findClass_of_methodNamed B.named
  have hlocks := B.notSynchronized
  have hin : ∀ w ∈ u_ws RX1 TX1 13, w ∈ wsZ1_typeAbout := fun w h => List.mem_cons_of_mem _ (inZ1 w h)
  have hl := lv_entry ([.ref g0, .int x1, .int x2]) (n := 3) (Nat.le_of_ble_eq_true rfl)
  rw [lg_entry_eq]
  generalize (lg_sl ([.ref g0, .int x1, .int x2]) ++ List.replicate (3 - (lg_sl ([.ref g0, .int x1, .int x2])).length) Slot.unset).toArray = ls at hl ⊢
  have hl : lv_has ls 3 [(0, .ref g0), (1, .int x1), (2, .int x2)] := hl
  refine lv_aload_n hx hb dX1_typeAbout_0 rfl (lv_at hl 0 rfl) ?_
  refine lv_iload_n hx hb dX1_typeAbout_1 rfl (lv_at hl 1 rfl) ?_
  refine kc_R [.int x1] [] ⟨hx, hb, hml, hown, hts⟩ (cM_isType l dC dI g0 gp gr gm gl gw gn cI pv nc tr tm tp mt wv nw re nm np kk kn x1) (cwV 1 hts gZ_typeAbout_isType rfl rfl rfl (by decide +kernel) ⟨(Nat.le_of_ble_eq_true rfl), (Nat.le_of_ble_eq_true rfl)⟩) hP hK (ci := 1) (q0 := 0) rfl rfl rfl rfl hl.1 rfl (Nat.le_of_ble_eq_true rfl) dX1_typeAbout_2 ⟨Nat.zero_le _, Nat.zero_le _⟩ ?_
  refine lv_if_ne (tgt := 10) hx hb dX1_typeAbout_5 (by decide) (fun c5 => ?_) (fun c5 => ?_)
  · refine lv_iload_n hx hb dX1_typeAbout_10 rfl (lv_at hl 2 rfl) ?_
    refine lv_iconst (v := -1) hx hb dX1_typeAbout_11 (by decide) ?_
    refine lv_icmp_ne (tgt := 22) hx hb dX1_typeAbout_12 (by decide) (fun c12 => ?_) (fun c12 => ?_)
    · refine lv_iload_n hx hb dX1_typeAbout_22 rfl (lv_at hl 2 rfl) ?_
      refine lv_bipush (v := -2) hx hb dX1_typeAbout_23 (by decide) ?_
      refine lv_icmp_ne (tgt := 35) hx hb dX1_typeAbout_25 (by decide) (fun c25 => ?_) (fun c25 => ?_)
      · refine lv_iload_n hx hb dX1_typeAbout_35 rfl (lv_at hl 2 rfl) ?_
        refine lv_if_lt (tgt := 63) hx hb dX1_typeAbout_36 (by decide) (fun c36 => ?_) (fun c36 => ?_)
        · refine lv_iconst (v := -1) hx hb dX1_typeAbout_63 (by decide) ?_
          exact W.iret hx hb hr (fun t ht hW => ⟨by rw [fM_typeAbout, if_neg c5, if_neg c12, if_neg c25, if_pos c36] <;> rfl, ht⟩) (fun _ h => by cases h) dX1_typeAbout_64
        · refine lv_iload_n hx hb dX1_typeAbout_39 rfl (lv_at hl 2 rfl) ?_
          refine lv_aload_n hx hb dX1_typeAbout_40 rfl (lv_at hl 0 rfl) ?_
          refine va_get (D := (dC, dI)) (ci := 1) (v := .ref gm) (C := RX1) (T := TX1) (N := 13) hx hb hts hin hown hK hP 0 rfl rfl 3 (by decide) (hts _ (List.mem_cons_of_mem _ tk_fl_16)) (fun _ h9 => h9) rfl dX1_typeAbout_41 ?_
          refine lv_iload_n hx hb dX1_typeAbout_44 rfl (lv_at hl 1 rfl) ?_
          refine va_iald hx hb hK hP 3 0 rfl rfl (vp_in_mono (mT_in hmt c5) hmt) dX1_typeAbout_45 ?_
          refine lv_icmp_ge (tgt := 63) hx hb dX1_typeAbout_46 (by decide) (fun c46 => ?_) (fun c46 => ?_)
          · refine lv_iconst (v := -1) hx hb dX1_typeAbout_63 (by decide) ?_
            exact W.iret hx hb hr (fun t ht hW => ⟨by rw [fM_typeAbout, if_neg c5, if_neg c12, if_neg c25, if_neg c36, if_pos c46] <;> rfl, ht⟩) (fun _ h => by cases h) dX1_typeAbout_64
          · refine lv_aload_n hx hb dX1_typeAbout_49 rfl (lv_at hl 0 rfl) ?_
            refine va_get (D := (dC, dI)) (ci := 1) (v := .ref gl) (C := RX1) (T := TX1) (N := 13) hx hb hts hin hown hK hP 0 rfl rfl 4 (by decide) (hts _ (List.mem_cons_of_mem _ tk_fl_19)) (fun _ h9 => h9) rfl dX1_typeAbout_50 ?_
            refine lv_bipush (v := 10) hx hb dX1_typeAbout_53 (by decide) ?_
            refine lv_iload_n hx hb dX1_typeAbout_55 rfl (lv_at hl 1 rfl) ?_
            refine lv_imul hx hb dX1_typeAbout_56 ?_
            refine lv_iload_n hx hb dX1_typeAbout_57 rfl (lv_at hl 2 rfl) ?_
            refine lv_iadd hx hb dX1_typeAbout_58 ?_
            refine va_iald hx hb hK hP 4 0 rfl rfl (mix_in hmt hTM c5 c36 c46) dX1_typeAbout_59 ?_
            refine lv_goto (tgt := 64) hx hb dX1_typeAbout_60 (by decide) ?_
            exact W.iret hx hb hr (fun t ht hW => ⟨by rw [fM_typeAbout, if_neg c5, if_neg c12, if_neg c25, if_neg c36, if_neg c46] <;> rfl, ht⟩) (fun _ h => by cases h) dX1_typeAbout_64
      · refine lv_aload_n hx hb dX1_typeAbout_28 rfl (lv_at hl 0 rfl) ?_
        refine va_get (D := (dC, dI)) (ci := 1) (v := .ref gm) (C := RX1) (T := TX1) (N := 13) hx hb hts hin hown hK hP 0 rfl rfl 3 (by decide) (hts _ (List.mem_cons_of_mem _ tk_fl_16)) (fun _ h9 => h9) rfl dX1_typeAbout_29 ?_
        refine lv_iload_n hx hb dX1_typeAbout_32 rfl (lv_at hl 1 rfl) ?_
        refine va_iald hx hb hK hP 3 0 rfl rfl (vp_in_mono (mT_in hmt c5) hmt) dX1_typeAbout_33 ?_
        exact W.iret hx hb hr (fun t ht hW => ⟨by rw [fM_typeAbout, if_neg c5, if_neg c12, if_pos c25] <;> rfl, ht⟩) (fun _ h => by cases h) dX1_typeAbout_34
    · refine lv_aload_n hx hb dX1_typeAbout_15 rfl (lv_at hl 0 rfl) ?_
      refine va_get (D := (dC, dI)) (ci := 1) (v := .ref gr) (C := RX1) (T := TX1) (N := 13) hx hb hts hin hown hK hP 0 rfl rfl 2 (by decide) (hts _ (List.mem_cons_of_mem _ tk_fl_13)) (fun _ h9 => h9) rfl dX1_typeAbout_16 ?_
      refine lv_iload_n hx hb dX1_typeAbout_19 rfl (lv_at hl 1 rfl) ?_
      refine va_iald hx hb hK hP 2 0 rfl rfl (vp_in_mono (mT_in hmt c5) hmt) dX1_typeAbout_20 ?_
      exact W.iret hx hb hr (fun t ht hW => ⟨by rw [fM_typeAbout, if_neg c5, if_pos c12] <;> rfl, ht⟩) (fun _ h => by cases h) dX1_typeAbout_21
  · refine lv_iconst (v := -1) hx hb dX1_typeAbout_8 (by decide) ?_
    exact W.iret hx hb hr (fun t ht hW => ⟨by rw [fM_typeAbout, if_pos c5] <;> rfl, ht⟩) (fun _ h => by cases h) dX1_typeAbout_9
def fM_meet (nc : Nat) (bl : Nat → Nat → Bool) (x1 x2 : Int32) : Int32 := if (bI (fM_isKind nc x1)) = 0 then (-1 : Int32) else if (bI (fM_isKind nc x2)) = 0 then (-1 : Int32) else mup (fun c => (bl x1.toNatClampNeg c && bl x2.toNatClampNeg c) && mall (fun d => !(bl x1.toNatClampNeg d && bl x2.toNatClampNeg d) || bl c d) (20 + nc)) (20 + nc) 0
set_option maxHeartbeats 4000000 in
set_option maxRecDepth 100000 in
theorem cM_meet (l : Launch) (dC : Nat → ClassId) (dI : Nat → Nat → Nat) (g0 gp gr gm gl gw gn : Nat) (cI : ClassId) (pv : Nat → Int32) (nc : Nat) (tr : Nat → Int32) (tm : Nat → Int32) (tp : Nat → Int32) (mt : Nat) (wv : Nat → Int32) (nw : Nat) (re : Int32) (nm : Nat) (np : Nat → Int32) (kk : Int32) (kn : Int64) (bl : Nat → Nat → Bool) (pr : Nat → Nat) (x1 : Int32) (x2 : Int32) (hPV : kPV pv pr nc) (hBL : kBL bl pr nc) (hnc : nc ≤ 12) : Met l yX1_meet wsZ1_meet ({ frames := 2, cells := 0, slots := 0, locals := 43 }) (kPr (dC, dI) vwCl [(cI, .int)] (mW g0 gp gr gm gl gw gn cI pv nc tr tm tp mt wv nw re nm np kk kn) [.ref g0, .int x1, .int x2]) (k2_QcV (.int (fM_meet nc bl x1 x2))) 0 0 kNo := by
  refine Met.ofW (cc := cX1_meet) (maxL := 6) (ret := (some .int)) (by decide) rfl ?_
  intro p e s m args below meth c s₁ B hml hv
  obtain ⟨rfl, hP, hK⟩ := hv
  have hx := B.exec
  have hb := B.bytes
  have hr := B.returns
  have hts := atoms_spec (ws := wsZ1_meet) B.pre
  have hown : s.vm.findClass RX1 = some m.cls := findClass_of_methodNamed B.named
  have hlocks := B.notSynchronized
  have hin : ∀ w ∈ u_ws RX1 TX1 13, w ∈ wsZ1_meet := fun w h => List.mem_cons_of_mem _ (inZ1 w h)
  have hl := lv_entry ([.ref g0, .int x1, .int x2]) (n := 6) (Nat.le_of_ble_eq_true rfl)
  rw [lg_entry_eq]
  generalize (lg_sl ([.ref g0, .int x1, .int x2]) ++ List.replicate (6 - (lg_sl ([.ref g0, .int x1, .int x2])).length) Slot.unset).toArray = ls at hl ⊢
  have hl : lv_has ls 6 [(0, .ref g0), (1, .int x1), (2, .int x2)] := hl
  refine lv_aload_n hx hb dX1_meet_0 rfl (lv_at hl 0 rfl) ?_
  refine lv_iload_n hx hb dX1_meet_1 rfl (lv_at hl 1 rfl) ?_
  refine kc_R [.int x1] [] ⟨hx, hb, hml, hown, hts⟩ (cM_isKind l dC dI g0 gp gr gm gl gw gn cI pv nc tr tm tp mt wv nw re nm np kk kn x1) (cwV 1 hts gZ_meet_isKind rfl rfl rfl (by decide +kernel) ⟨(Nat.le_of_ble_eq_true rfl), (Nat.le_of_ble_eq_true rfl)⟩) hP hK (ci := 1) (q0 := 0) rfl rfl rfl rfl hl.1 rfl (Nat.le_of_ble_eq_true rfl) dX1_meet_2 ⟨Nat.zero_le _, Nat.zero_le _⟩ ?_
  refine lv_if_eq (tgt := 16) hx hb dX1_meet_5 (by decide) (fun c5 => ?_) (fun c5 => ?_)
  · refine lv_iconst (v := -1) hx hb dX1_meet_16 (by decide) ?_
    exact W.iret hx hb hr (fun t ht hW => ⟨by rw [fM_meet, if_pos c5] <;> rfl, ht⟩) (fun _ h => by cases h) dX1_meet_17
  · refine lv_aload_n hx hb dX1_meet_8 rfl (lv_at hl 0 rfl) ?_
    refine lv_iload_n hx hb dX1_meet_9 rfl (lv_at hl 2 rfl) ?_
    refine kc_R [.int x2] [] ⟨hx, hb, hml, hown, hts⟩ (cM_isKind l dC dI g0 gp gr gm gl gw gn cI pv nc tr tm tp mt wv nw re nm np kk kn x2) (cwV 1 hts gZ_meet_isKind rfl rfl rfl (by decide +kernel) ⟨(Nat.le_of_ble_eq_true rfl), (Nat.le_of_ble_eq_true rfl)⟩) hP hK (ci := 1) (q0 := 0) rfl rfl rfl rfl hl.1 rfl (Nat.le_of_ble_eq_true rfl) dX1_meet_10 ⟨Nat.zero_le _, Nat.zero_le _⟩ ?_
    refine lv_if_ne (tgt := 18) hx hb dX1_meet_13 (by decide) (fun c13 => ?_) (fun c13 => ?_)
    · obtain ⟨i, hi, rfl⟩ := vp_in_of (mK_in hnc c5) (by omega)
      obtain ⟨j, hj, rfl⟩ := vp_in_of (mK_in hnc c13) (by omega)
      refine lv_iconst (v := 0) hx hb dX1_meet_18 (by decide) ?_
      refine lv_istore_n (lv' := [(3, .int 0), (0, .ref g0), (1, .int (nI i)), (2, .int (nI j))]) hx hb dX1_meet_19 rfl hl (by decide) rfl (fun ls hl => ?_)
      have hfn : fM_meet nc bl (nI i) (nI j) = mup (fun c => (bl i c && bl j c) && mall (fun d => !(bl i d && bl j d) || bl c d) (20 + nc)) (20 + nc) 0 := by rw [fM_meet, if_neg c5, if_neg c13, nI_clamp (by omega), nI_clamp (by omega)]
      suffices oloop : ∀ (n q : Nat), q + n = 20 + nc → mup (fun c => (bl i c && bl j c) && mall (fun d => !(bl i d && bl j d) || bl c d) (20 + nc)) n q = mup (fun c => (bl i c && bl j c) && mall (fun d => !(bl i d && bl j d) || bl c d) (20 + nc)) (20 + nc) 0 → ∀ (ls : Array Slot), lv_has ls 6 [(3, .int (nI q)), (0, .ref g0), (1, .int (nI i)), (2, .int (nI j))] → W p l e (headSpec wsZ1_meet ({ frames := 2, cells := 0, slots := 0, locals := 43 })).room s m ([.ref g0, .int (nI i), .int (nI j)] : List Value).toArray below meth c s.heap [] 0 0 (MQ below (k2_QcV (.int (fM_meet nc bl (nI i) (nI j)))) ([.ref g0, .int (nI i), .int (nI j)] : List Value).toArray s 0 0 kNo) (F0 m 20 ls []) by
        exact oloop (20 + nc) 0 (by omega) rfl ls (lv_sub hl [0, 1, 2, 3] rfl)
      intro n
      induction n with
      | zero =>
        intro q hq he ls hl
        refine lv_iload_n hx hb dX1_meet_20 rfl (lv_at hl 0 rfl) ?_
        refine lv_bipush (v := 20) hx hb dX1_meet_21 (by decide) ?_
        refine lv_aload_n hx hb dX1_meet_23 rfl (lv_at hl 1 rfl) ?_
        refine va_get (D := (dC, dI)) (ci := 1) (v := .int (nI nc)) (C := RX1) (T := TX1) (N := 13) hx hb hts hin hown hK hP 0 rfl rfl 1 (by decide) (hts _ (List.mem_cons_of_mem _ tk_fl_28)) (fun _ h9 => h9) rfl dX1_meet_24 ?_
        refine lv_iadd hx hb dX1_meet_27 ?_
        refine kv_topi (y := nI (20 + nc)) (nI_add 20 nc) ?_
        refine lv_icmp_ge (tgt := 131) hx hb dX1_meet_28 (by decide) (fun c28 => ?_) (fun c28 => ?_)
        · refine lv_iconst (v := -1) hx hb dX1_meet_131 (by decide) ?_
          exact W.iret hx hb hr (fun t ht hW => ⟨by rw [hfn, ← he] <;> rfl, ht⟩) (fun _ h => by cases h) dX1_meet_132
        · exact absurd (nI_le (by omega) (by omega)) c28
      | succ n iho =>
        intro q hq he ls hl
        refine lv_iload_n hx hb dX1_meet_20 rfl (lv_at hl 0 rfl) ?_
        refine lv_bipush (v := 20) hx hb dX1_meet_21 (by decide) ?_
        refine lv_aload_n hx hb dX1_meet_23 rfl (lv_at hl 1 rfl) ?_
        refine va_get (D := (dC, dI)) (ci := 1) (v := .int (nI nc)) (C := RX1) (T := TX1) (N := 13) hx hb hts hin hown hK hP 0 rfl rfl 1 (by decide) (hts _ (List.mem_cons_of_mem _ tk_fl_28)) (fun _ h9 => h9) rfl dX1_meet_24 ?_
        refine lv_iadd hx hb dX1_meet_27 ?_
        refine kv_topi (y := nI (20 + nc)) (nI_add 20 nc) ?_
        refine lv_icmp_ge (tgt := 131) hx hb dX1_meet_28 (by decide) (fun c28 => ?_) (fun c28 => ?_)
        · exact absurd ((nI_leI (by omega) (by omega)).mp c28) (by omega)
        · refine lv_aload_n hx hb dX1_meet_31 rfl (lv_at hl 1 rfl) ?_
          refine lv_iload_n hx hb dX1_meet_32 rfl (lv_at hl 2 rfl) ?_
          refine lv_iload_n hx hb dX1_meet_33 rfl (lv_at hl 0 rfl) ?_
          refine kc_R [.int (nI i), .int (nI q)] [] ⟨hx, hb, hml, hown, hts⟩ (cM_isBelow l dC dI g0 gp gr gm gl gw gn cI pv nc tr tm tp mt wv nw re nm np kk kn bl pr (nI i) (nI q) hPV hBL hnc (vp_in_nI (by omega) (by omega)) (vp_in_nI (by omega) (by decide))) (cwV 2 hts gZ_meet_isBelow rfl rfl rfl (by decide +kernel) ⟨(Nat.le_of_ble_eq_true rfl), (Nat.le_of_ble_eq_true rfl)⟩) hP hK (ci := 1) (q0 := 0) rfl rfl rfl rfl hl.1 rfl (Nat.le_of_ble_eq_true rfl) dX1_meet_34 ⟨Nat.zero_le _, Nat.zero_le _⟩ ?_
          refine kv_topi (y := bI (bl i q)) (by rw [blI_nI bl (by omega) (by omega)]) ?_
          refine lv_if_eq (tgt := 125) hx hb dX1_meet_37 (by decide) (fun c37 => ?_) (fun c37 => ?_)
          · refine lv_iinc (v := nI (q + 1)) (lv' := [(3, .int (nI (q + 1))), (0, .ref g0), (1, .int (nI i)), (2, .int (nI j))]) hx hb dX1_meet_125 hl (k := 0) rfl (nI_1 q) (by decide) rfl (fun ls hl => ?_)
            refine lv_goto (tgt := 20) hx hb dX1_meet_128 (by decide) ?_
            exact iho (q + 1) (by omega) (by rw [← he, mup, if_neg (by simp [bI_e0 c37])]) ls (lv_sub hl [0, 1, 2, 3] rfl)
          · refine lv_aload_n hx hb dX1_meet_40 rfl (lv_at hl 1 rfl) ?_
            refine lv_iload_n hx hb dX1_meet_41 rfl (lv_at hl 3 rfl) ?_
            refine lv_iload_n hx hb dX1_meet_42 rfl (lv_at hl 0 rfl) ?_
            refine kc_R [.int (nI j), .int (nI q)] [] ⟨hx, hb, hml, hown, hts⟩ (cM_isBelow l dC dI g0 gp gr gm gl gw gn cI pv nc tr tm tp mt wv nw re nm np kk kn bl pr (nI j) (nI q) hPV hBL hnc (vp_in_nI (by omega) (by omega)) (vp_in_nI (by omega) (by decide))) (cwV 2 hts gZ_meet_isBelow rfl rfl rfl (by decide +kernel) ⟨(Nat.le_of_ble_eq_true rfl), (Nat.le_of_ble_eq_true rfl)⟩) hP hK (ci := 1) (q0 := 0) rfl rfl rfl rfl hl.1 rfl (Nat.le_of_ble_eq_true rfl) dX1_meet_43 ⟨Nat.zero_le _, Nat.zero_le _⟩ ?_
            refine kv_topi (y := bI (bl j q)) (by rw [blI_nI bl (by omega) (by omega)]) ?_
            refine lv_if_ne (tgt := 52) hx hb dX1_meet_46 (by decide) (fun c46 => ?_) (fun c46 => ?_)
            · refine lv_iconst (v := 1) hx hb dX1_meet_52 (by decide) ?_
              refine lv_istore (lv' := [(4, .int 1), (3, .int (nI q)), (0, .ref g0), (1, .int (nI i)), (2, .int (nI j))]) hx hb dX1_meet_53 hl (by decide) rfl (fun ls hl => ?_)
              refine lv_iconst (v := 0) hx hb dX1_meet_55 (by decide) ?_
              refine lv_istore (lv' := [(5, .int 0), (4, .int 1), (3, .int (nI q)), (0, .ref g0), (1, .int (nI i)), (2, .int (nI j))]) hx hb dX1_meet_56 hl (by decide) rfl (fun ls hl => ?_)
              suffices iloop : ∀ (n2 d : Nat) (b : Bool), d + n2 = 20 + nc → b = mall (fun d => !(bl i d && bl j d) || bl q d) d → ∀ (ls : Array Slot), lv_has ls 6 [(5, .int (nI d)), (4, .int (bI b)), (3, .int (nI q)), (0, .ref g0), (1, .int (nI i)), (2, .int (nI j))] → W p l e (headSpec wsZ1_meet ({ frames := 2, cells := 0, slots := 0, locals := 43 })).room s m ([.ref g0, .int (nI i), .int (nI j)] : List Value).toArray below meth c s.heap [] 0 0 (MQ below (k2_QcV (.int (fM_meet nc bl (nI i) (nI j)))) ([.ref g0, .int (nI i), .int (nI j)] : List Value).toArray s 0 0 kNo) (F0 m 58 ls []) by
                exact iloop (20 + nc) 0 true (by omega) rfl ls (lv_sub hl [0, 1, 2, 3, 4, 5] rfl)
              intro n2
              induction n2 with
              | zero =>
                intro d b hd hfb ls hl
                obtain rfl : d = 20 + nc := by omega
                refine lv_iload hx hb dX1_meet_58 (lv_at hl 0 rfl) ?_
                refine lv_bipush (v := 20) hx hb dX1_meet_60 (by decide) ?_
                refine lv_aload_n hx hb dX1_meet_62 rfl (lv_at hl 3 rfl) ?_
                refine va_get (D := (dC, dI)) (ci := 1) (v := .int (nI nc)) (C := RX1) (T := TX1) (N := 13) hx hb hts hin hown hK hP 0 rfl rfl 1 (by decide) (hts _ (List.mem_cons_of_mem _ tk_fl_28)) (fun _ h9 => h9) rfl dX1_meet_63 ?_
                refine lv_iadd hx hb dX1_meet_66 ?_
                refine kv_topi (y := nI (20 + nc)) (nI_add 20 nc) ?_
                refine lv_icmp_ge (tgt := 118) hx hb dX1_meet_67 (by decide) (fun c67 => ?_) (fun c67 => ?_)
                · refine lv_iload hx hb dX1_meet_118 (lv_at hl 1 rfl) ?_
                  refine lv_if_eq (tgt := 125) hx hb dX1_meet_120 (by decide) (fun c120 => ?_) (fun c120 => ?_)
                  · refine lv_iinc (v := nI (q + 1)) (lv' := [(3, .int (nI (q + 1))), (5, .int (nI (20 + nc))), (4, .int (bI b)), (0, .ref g0), (1, .int (nI i)), (2, .int (nI j))]) hx hb dX1_meet_125 hl (k := 2) rfl (nI_1 q) (by decide) rfl (fun ls hl => ?_)
                    refine lv_goto (tgt := 20) hx hb dX1_meet_128 (by decide) ?_
                    exact iho (q + 1) (by omega) (by rw [← he, mup, if_neg (by rw [← hfb, bI_e0 c120]; simp)]) ls (lv_sub hl [0, 3, 4, 5] rfl)
                  · refine lv_iload_n hx hb dX1_meet_123 rfl (lv_at hl 2 rfl) ?_
                    exact W.iret hx hb hr (fun t ht hW => ⟨by rw [hfn, ← he, mup, if_pos (by rw [← hfb, bI_n0 c37, bI_n0 c46, bI_n0 c120] <;> rfl)] <;> rfl, ht⟩) (fun _ h => by cases h) dX1_meet_124
                · exact absurd (nI_le (Nat.le_refl _) (by omega)) c67
              | succ n2 ih =>
                intro d b hd hfb ls hl
                refine lv_iload hx hb dX1_meet_58 (lv_at hl 0 rfl) ?_
                refine lv_bipush (v := 20) hx hb dX1_meet_60 (by decide) ?_
                refine lv_aload_n hx hb dX1_meet_62 rfl (lv_at hl 3 rfl) ?_
                refine va_get (D := (dC, dI)) (ci := 1) (v := .int (nI nc)) (C := RX1) (T := TX1) (N := 13) hx hb hts hin hown hK hP 0 rfl rfl 1 (by decide) (hts _ (List.mem_cons_of_mem _ tk_fl_28)) (fun _ h9 => h9) rfl dX1_meet_63 ?_
                refine lv_iadd hx hb dX1_meet_66 ?_
                refine kv_topi (y := nI (20 + nc)) (nI_add 20 nc) ?_
                refine lv_icmp_ge (tgt := 118) hx hb dX1_meet_67 (by decide) (fun c67 => ?_) (fun c67 => ?_)
                · exact absurd ((nI_leI (by omega) (by omega)).mp c67) (by omega)
                · refine lv_iload hx hb dX1_meet_70 (lv_at hl 1 rfl) ?_
                  refine lv_if_eq (tgt := 118) hx hb dX1_meet_72 (by decide) (fun c72 => ?_) (fun c72 => ?_)
                  · refine lv_iload hx hb dX1_meet_118 (lv_at hl 1 rfl) ?_
                    refine lv_if_eq (tgt := 125) hx hb dX1_meet_120 (by decide) (fun c120 => ?_) (fun c120 => ?_)
                    · refine lv_iinc (v := nI (q + 1)) (lv' := [(3, .int (nI (q + 1))), (5, .int (nI d)), (4, .int (bI b)), (0, .ref g0), (1, .int (nI i)), (2, .int (nI j))]) hx hb dX1_meet_125 hl (k := 2) rfl (nI_1 q) (by decide) rfl (fun ls hl => ?_)
                      refine lv_goto (tgt := 20) hx hb dX1_meet_128 (by decide) ?_
                      exact iho (q + 1) (by omega) (by rw [← he, mup, if_neg (by rw [mall_mono (d := d) (by omega) (by rw [← hfb, bI_e0 c72])]; simp)]) ls (lv_sub hl [0, 3, 4, 5] rfl)
                    · exact absurd c72 c120
                  · refine lv_aload_n hx hb dX1_meet_75 rfl (lv_at hl 3 rfl) ?_
                    refine lv_iload_n hx hb dX1_meet_76 rfl (lv_at hl 4 rfl) ?_
                    refine lv_iload hx hb dX1_meet_77 (lv_at hl 0 rfl) ?_
                    refine kc_R [.int (nI i), .int (nI d)] [] ⟨hx, hb, hml, hown, hts⟩ (cM_isBelow l dC dI g0 gp gr gm gl gw gn cI pv nc tr tm tp mt wv nw re nm np kk kn bl pr (nI i) (nI d) hPV hBL hnc (vp_in_nI (by omega) (by omega)) (vp_in_nI (by omega) (by decide))) (cwV 2 hts gZ_meet_isBelow rfl rfl rfl (by decide +kernel) ⟨(Nat.le_of_ble_eq_true rfl), (Nat.le_of_ble_eq_true rfl)⟩) hP hK (ci := 1) (q0 := 0) rfl rfl rfl rfl hl.1 rfl (Nat.le_of_ble_eq_true rfl) dX1_meet_79 ⟨Nat.zero_le _, Nat.zero_le _⟩ ?_
                    refine kv_topi (y := bI (bl i d)) (by rw [blI_nI bl (by omega) (by omega)]) ?_
                    refine lv_if_eq (tgt := 105) hx hb dX1_meet_82 (by decide) (fun c82 => ?_) (fun c82 => ?_)
                    · refine lv_iconst (v := 1) hx hb dX1_meet_105 (by decide) ?_
                      refine lv_goto (tgt := 110) hx hb dX1_meet_106 (by decide) ?_
                      refine lv_istore (lv' := [(4, .int 1), (5, .int (nI d)), (3, .int (nI q)), (0, .ref g0), (1, .int (nI i)), (2, .int (nI j))]) hx hb dX1_meet_110 hl (by decide) rfl (fun ls hl => ?_)
                      refine lv_iinc (v := nI (d + 1)) (lv' := [(5, .int (nI (d + 1))), (4, .int 1), (3, .int (nI q)), (0, .ref g0), (1, .int (nI i)), (2, .int (nI j))]) hx hb dX1_meet_112 hl (k := 1) rfl (nI_1 d) (by decide) rfl (fun ls hl => ?_)
                      refine lv_goto (tgt := 58) hx hb dX1_meet_115 (by decide) ?_
                      exact ih (d + 1) true (by omega) (by rw [mall, ← hfb, bI_n0 c72, bI_e0 c82] <;> rfl) ls (lv_sub hl [0, 1, 2, 3, 4, 5] rfl)
                    · refine lv_aload_n hx hb dX1_meet_85 rfl (lv_at hl 3 rfl) ?_
                      refine lv_iload_n hx hb dX1_meet_86 rfl (lv_at hl 5 rfl) ?_
                      refine lv_iload hx hb dX1_meet_87 (lv_at hl 0 rfl) ?_
                      refine kc_R [.int (nI j), .int (nI d)] [] ⟨hx, hb, hml, hown, hts⟩ (cM_isBelow l dC dI g0 gp gr gm gl gw gn cI pv nc tr tm tp mt wv nw re nm np kk kn bl pr (nI j) (nI d) hPV hBL hnc (vp_in_nI (by omega) (by omega)) (vp_in_nI (by omega) (by decide))) (cwV 2 hts gZ_meet_isBelow rfl rfl rfl (by decide +kernel) ⟨(Nat.le_of_ble_eq_true rfl), (Nat.le_of_ble_eq_true rfl)⟩) hP hK (ci := 1) (q0 := 0) rfl rfl rfl rfl hl.1 rfl (Nat.le_of_ble_eq_true rfl) dX1_meet_89 ⟨Nat.zero_le _, Nat.zero_le _⟩ ?_
                      refine kv_topi (y := bI (bl j d)) (by rw [blI_nI bl (by omega) (by omega)]) ?_
                      refine lv_if_eq (tgt := 105) hx hb dX1_meet_92 (by decide) (fun c92 => ?_) (fun c92 => ?_)
                      · refine lv_iconst (v := 1) hx hb dX1_meet_105 (by decide) ?_
                        refine lv_goto (tgt := 110) hx hb dX1_meet_106 (by decide) ?_
                        refine lv_istore (lv' := [(4, .int 1), (5, .int (nI d)), (3, .int (nI q)), (0, .ref g0), (1, .int (nI i)), (2, .int (nI j))]) hx hb dX1_meet_110 hl (by decide) rfl (fun ls hl => ?_)
                        refine lv_iinc (v := nI (d + 1)) (lv' := [(5, .int (nI (d + 1))), (4, .int 1), (3, .int (nI q)), (0, .ref g0), (1, .int (nI i)), (2, .int (nI j))]) hx hb dX1_meet_112 hl (k := 1) rfl (nI_1 d) (by decide) rfl (fun ls hl => ?_)
                        refine lv_goto (tgt := 58) hx hb dX1_meet_115 (by decide) ?_
                        exact ih (d + 1) true (by omega) (by rw [mall, ← hfb, bI_n0 c72, bI_n0 c82, bI_e0 c92] <;> rfl) ls (lv_sub hl [0, 1, 2, 3, 4, 5] rfl)
                      · refine lv_aload_n hx hb dX1_meet_95 rfl (lv_at hl 3 rfl) ?_
                        refine lv_iload_n hx hb dX1_meet_96 rfl (lv_at hl 2 rfl) ?_
                        refine lv_iload hx hb dX1_meet_97 (lv_at hl 0 rfl) ?_
                        refine kc_R [.int (nI q), .int (nI d)] [] ⟨hx, hb, hml, hown, hts⟩ (cM_isBelow l dC dI g0 gp gr gm gl gw gn cI pv nc tr tm tp mt wv nw re nm np kk kn bl pr (nI q) (nI d) hPV hBL hnc (vp_in_nI (by omega) (by omega)) (vp_in_nI (by omega) (by decide))) (cwV 2 hts gZ_meet_isBelow rfl rfl rfl (by decide +kernel) ⟨(Nat.le_of_ble_eq_true rfl), (Nat.le_of_ble_eq_true rfl)⟩) hP hK (ci := 1) (q0 := 0) rfl rfl rfl rfl hl.1 rfl (Nat.le_of_ble_eq_true rfl) dX1_meet_99 ⟨Nat.zero_le _, Nat.zero_le _⟩ ?_
                        refine kv_topi (y := bI (bl q d)) (by rw [blI_nI bl (by omega) (by omega)]) ?_
                        refine lv_if_eq (tgt := 109) hx hb dX1_meet_102 (by decide) (fun c102 => ?_) (fun c102 => ?_)
                        · refine lv_iconst (v := 0) hx hb dX1_meet_109 (by decide) ?_
                          refine lv_istore (lv' := [(4, .int 0), (5, .int (nI d)), (3, .int (nI q)), (0, .ref g0), (1, .int (nI i)), (2, .int (nI j))]) hx hb dX1_meet_110 hl (by decide) rfl (fun ls hl => ?_)
                          refine lv_iinc (v := nI (d + 1)) (lv' := [(5, .int (nI (d + 1))), (4, .int 0), (3, .int (nI q)), (0, .ref g0), (1, .int (nI i)), (2, .int (nI j))]) hx hb dX1_meet_112 hl (k := 1) rfl (nI_1 d) (by decide) rfl (fun ls hl => ?_)
                          refine lv_goto (tgt := 58) hx hb dX1_meet_115 (by decide) ?_
                          exact ih (d + 1) false (by omega) (by rw [mall, ← hfb, bI_n0 c72, bI_n0 c82, bI_n0 c92, bI_e0 c102] <;> rfl) ls (lv_sub hl [0, 1, 2, 3, 4, 5] rfl)
                        · refine lv_iconst (v := 1) hx hb dX1_meet_105 (by decide) ?_
                          refine lv_goto (tgt := 110) hx hb dX1_meet_106 (by decide) ?_
                          refine lv_istore (lv' := [(4, .int 1), (5, .int (nI d)), (3, .int (nI q)), (0, .ref g0), (1, .int (nI i)), (2, .int (nI j))]) hx hb dX1_meet_110 hl (by decide) rfl (fun ls hl => ?_)
                          refine lv_iinc (v := nI (d + 1)) (lv' := [(5, .int (nI (d + 1))), (4, .int 1), (3, .int (nI q)), (0, .ref g0), (1, .int (nI i)), (2, .int (nI j))]) hx hb dX1_meet_112 hl (k := 1) rfl (nI_1 d) (by decide) rfl (fun ls hl => ?_)
                          refine lv_goto (tgt := 58) hx hb dX1_meet_115 (by decide) ?_
                          exact ih (d + 1) true (by omega) (by rw [mall, ← hfb, bI_n0 c72, bI_n0 c82, bI_n0 c92, bI_n0 c102] <;> rfl) ls (lv_sub hl [0, 1, 2, 3, 4, 5] rfl)
            · refine lv_goto (tgt := 125) hx hb dX1_meet_49 (by decide) ?_
              refine lv_iinc (v := nI (q + 1)) (lv' := [(3, .int (nI (q + 1))), (0, .ref g0), (1, .int (nI i)), (2, .int (nI j))]) hx hb dX1_meet_125 hl (k := 0) rfl (nI_1 q) (by decide) rfl (fun ls hl => ?_)
              refine lv_goto (tgt := 20) hx hb dX1_meet_128 (by decide) ?_
              exact iho (q + 1) (by omega) (by rw [← he, mup, if_neg (by simp [bI_e0 c46])]) ls (lv_sub hl [0, 1, 2, 3] rfl)
    · refine lv_iconst (v := -1) hx hb dX1_meet_16 (by decide) ?_
      exact W.iret hx hb hr (fun t ht hW => ⟨by rw [fM_meet, if_neg c5, if_pos c13] <;> rfl, ht⟩) (fun _ h => by cases h) dX1_meet_17
end
section
def fQ (tr tm tp np : Nat → Int32) (r : Int32) (N t : Nat) : Bool := (decide (tr t = r) && decide (tm t = nI N)) && mall (fun k => decide (tp (10 * t + k) = np k)) N
def tpC (tp np : Nat → Int32) (t n : Nat) : Nat → Int32 := fun j => if 10 * t ≤ j ∧ j < 10 * t + n then np (j - 10 * t) else tp j
theorem tpC_0 (tp np : Nat → Int32) (t : Nat) : tpC tp np t 0 = tp := by
  funext j
  unfold tpC
  rw [if_neg (by omega)]
theorem tpC_s {tp np : Nat → Int32} {t k : Nat} (h : 10 * t + k < 2 ^ 31) : upd (tpC tp np t k) (nI (10 * t + k)).toNatClampNeg (np k) = tpC tp np t (k + 1) := by
  rw [nI_clamp h]
  funext j
  unfold upd tpC
  by_cases c : j = 10 * t + k
  · rw [if_pos c, if_pos (by omega), show j - 10 * t = k by omega]
  · rw [if_neg c]
    by_cases d : 10 * t ≤ j ∧ j < 10 * t + k
    · rw [if_pos d, if_pos (by omega)]
    · rw [if_neg d, if_neg (by omega)]
def npC (np wv : Nat → Int32) (n : Nat) : Nat → Int32 := fun j => if j < n then wv j else np j
theorem npC_0 (np wv : Nat → Int32) : npC np wv 0 = np := by
  funext j
  unfold npC
  rw [if_neg (by omega)]
theorem npC_s {np wv : Nat → Int32} {k : Nat} (h : k < 2 ^ 31) : upd (npC np wv k) (nI k).toNatClampNeg (wv k) = npC np wv (k + 1) := by
  rw [nI_clamp h]
  funext j
  unfold upd npC
  by_cases c : j = k
  · rw [if_pos c, if_pos (by omega), c]
  · rw [if_neg c]
    by_cases d : j < k
    · rw [if_pos d, if_pos (by omega)]
    · rw [if_neg d, if_neg (by omega)]
theorem oI_some {o : Option Nat} (h : ¬ oI o = -1) : ∃ z, o = some z := by
  cases o with
  | none => exact absurd rfl h
  | some z => exact ⟨z, rfl⟩
theorem nI_m1 {z : Nat} (hz : z < 2 ^ 31) : ¬ nI z = -1 := by
  intro h
  have := nI_toInt hz
  rw [h] at this
  have e : (-1 : Int32).toInt = -1 := by decide
  omega
theorem oI_none {P : Nat → Bool} {n : Nat} (hn : n ≤ 300) (h : oI (fnd P n 0) = -1) : fnd P n 0 = none := by
  cases ho : fnd P n 0 with
  | none => rfl
  | some z =>
    rw [ho] at h
    have := fnd_lt n 0 z ho
    exact absurd h (nI_m1 (by omega))
theorem mnm {nm : Nat} (h : nm ≤ 32) (c : nI nm ≤ (10 : Int32)) : nm ≤ 10 := (nI_leI (b := 10) (by omega) (by decide)).mp c
theorem mnmF {nm : Nat} (c : ¬ nI nm ≤ (10 : Int32)) : ¬ nm ≤ 10 := fun q => c (nI_le (b := 10) q (by decide))
def kTP (tr tp : Nat → Int32) (tM : Nat → Nat) (mt : Nat) : Prop := ∀ i, i < mt → vp_in (tr i) 32 ∧ ∀ k, k < tM i → vp_in (tp (10 * i + k)) 32
def fM_mayBe (tr tm tp : Nat → Int32) (mt : Nat) (bl : Nat → Nat → Bool) (x1 x2 : Int32) (x3 : Bool) : Bool := if (bI (fM_isType mt x1)) = 0 then false else if (bI (fM_isType mt x2)) = 0 then false else if tm x1.toNatClampNeg = tm x2.toNatClampNeg then (mall (fun k => fM_mayPass bl (tp (10 * x2.toNatClampNeg + k)) (tp (10 * x1.toNatClampNeg + k)) x3 false) (tm x1.toNatClampNeg).toNatClampNeg && fM_mayPass bl (tr x1.toNatClampNeg) (tr x2.toNatClampNeg) x3 true) else false
def fM_typeOK (nc : Nat) (wv : Nat → Int32) (nw : Nat) (x1 : Int32) : Bool := fM_isKind nc x1 && decide (nw ≤ 10) && mall (fun k => fM_isKind nc (wv k) && !decide (wv k = 0)) nw
theorem mtyOK_yes {nc nw : Nat} {wv : Nat → Int32} {x1 : Int32} (c : ¬ bI (fM_isKind nc x1) = 0) (c2 : ¬ (10 : Int32) < nI nw) (hnw : nw ≤ 20) (he : mall (fun k => fM_isKind nc (wv k) && !decide (wv k = 0)) nw = true) : fM_typeOK nc wv nw x1 = true := by
  rw [fM_typeOK, bI_n0 c, he, decide_eq_true (Nat.not_lt.mp (fun q => c2 (nI_lt (a := 10) q (by omega))))]
  rfl
theorem mtyOK_no {nc nw : Nat} {wv : Nat → Int32} {x1 : Int32} (h : mall (fun k => fM_isKind nc (wv k) && !decide (wv k = 0)) nw = false) : fM_typeOK nc wv nw x1 = false := by
  rw [fM_typeOK, h, Bool.and_false]
theorem mtyOK_k {nc nw : Nat} {wv : Nat → Int32} {x1 : Int32} (c : bI (fM_isKind nc x1) = 0) : fM_typeOK nc wv nw x1 = false := by
  rw [fM_typeOK, bI_e0 c]
  rfl
theorem mtyOK_n {nc nw : Nat} {wv : Nat → Int32} {x1 : Int32} (hnw : nw ≤ 20) (c : (10 : Int32) < nI nw) : fM_typeOK nc wv nw x1 = false := by
  have : 10 < nw := (nI_ltI (a := 10) (by decide) (by omega)).mp c
  rw [fM_typeOK, decide_eq_false (by omega : ¬ nw ≤ 10), Bool.and_false, Bool.false_and]
def addL (np : Nat → Int32) (nm : Nat) (f : Nat → Int32) : Nat → Nat → Int32
  | 0 => np
  | n + 1 => upd (addL np nm f n) (nm + n) (f n)
def add0 (np : Nat → Int32) (f : Nat → Int32) : Nat → Nat → Int32
  | 0 => np
  | n + 1 => upd (add0 np f n) n (f n)
def chN1 (tp np : Nat → Int32) (i a : Nat) : Nat → Int32 := add0 np (fun k => tp (10 * i + k)) a
def chN2 (tp np : Nat → Int32) (i a u mu : Nat) : Nat → Int32 := addL (chN1 tp np i a) a (fun k => tp (10 * u + k)) mu
def chN3 (tp np : Nat → Int32) (i a b u mu n : Nat) : Nat → Int32 := addL (chN2 tp np i a u mu) (a + mu) (fun k => tp (10 * i + (a + b + k))) n
def fM_chOK (tm : Nat → Int32) (mt : Nat) (x1 x2 x3 x4 : Int32) : Bool := if (bI (fM_isType mt x1)) = 0 then false else if (bI (fM_isType mt x4)) = 0 then false else if x2 < 0 then false else if x3 < 0 then false else if lg_cmp (x2.toInt64 + x3.toInt64) (tm x1.toNatClampNeg).toInt64 ≤ 0 then true else false
theorem lgc_le {x y : Int64} : lg_cmp x y ≤ 0 ↔ x ≤ y := by
  unfold lg_cmp
  by_cases h : x > y
  · rw [if_pos h]
    exact ⟨fun q => absurd q (by decide), fun q => absurd h (by
      rw [gt_iff_lt, Int64.lt_iff_toInt_lt]
      rw [Int64.le_iff_toInt_le] at q
      omega)⟩
  · rw [if_neg h]
    rw [gt_iff_lt, Int64.lt_iff_toInt_lt] at h
    have h1 : x ≤ y := by
      rw [Int64.le_iff_toInt_le]
      omega
    by_cases h2 : x = y
    · rw [if_pos h2]; exact ⟨fun _ => h1, fun _ => by decide⟩
    · rw [if_neg h2]; exact ⟨fun _ => h1, fun _ => by decide⟩
theorem ch_le {a b N : Nat} (ha : a < 2 ^ 31) (hb : b < 2 ^ 31) (hN : N ≤ 10) : lg_cmp ((nI a).toInt64 + (nI b).toInt64) (nI N).toInt64 ≤ 0 ↔ a + b ≤ N := by
  rw [lgc_le, nI_l ha, nI_l hb, nI_l (by omega), lN_add, pk_lLE (by omega) (by omega)]

set_option maxHeartbeats 4000000 in
set_option maxRecDepth 100000 in
theorem cM_findType (l : Launch) (dC : Nat → ClassId) (dI : Nat → Nat → Nat) (g0 gp gr gm gl gw gn : Nat) (cI : ClassId) (pv : Nat → Int32) (nc : Nat) (tr : Nat → Int32) (tm : Nat → Int32) (tp : Nat → Int32) (mt : Nat) (wv : Nat → Int32) (nw : Nat) (re : Int32) (nm : Nat) (np : Nat → Int32) (kk : Int32) (kn : Int64) (x1 : Int32) (N : Nat) (hmt : mt ≤ 300) (hN : N ≤ 10) : Met l yX1_findType wsZ1_findType ({ frames := 0, cells := 0, slots := 0, locals := 0 }) (kPr (dC, dI) vwCl [(cI, .int)] (mW g0 gp gr gm gl gw gn cI pv nc tr tm tp mt wv nw re nm np kk kn) [.ref g0, .int x1, .int (nI N)]) (k2_QcV (.int (oI (fnd (fQ tr tm tp np x1 N) mt 0)))) 0 0 kNo := by
  refine Met.ofW (cc := cX1_findType) (maxL := 6) (ret := (some .int)) (by decide) rfl ?_
  intro p e s m args below meth c s₁ B hml hv
  obtain ⟨rfl, hP, hK⟩ := hv
  have hx := B.exec
  have hb := B.bytes
  have hr := B.returns
  have hts := atoms_spec (ws := wsZ1_findType) B.pre
  have hown : s.vm.findClass RX1 = some m.cls := findClass_of_methodNamed B.named
  have hlocks := B.notSynchronized
  have hin : ∀ w ∈ u_ws RX1 TX1 13, w ∈ wsZ1_findType := fun w h => List.mem_cons_of_mem _ (inZ1 w h)
  have hl := lv_entry ([.ref g0, .int x1, .int (nI N)]) (n := 6) (Nat.le_of_ble_eq_true rfl)
  rw [lg_entry_eq]
  generalize (lg_sl ([.ref g0, .int x1, .int (nI N)]) ++ List.replicate (6 - (lg_sl ([.ref g0, .int x1, .int (nI N)])).length) Slot.unset).toArray = ls at hl ⊢
  have hl : lv_has ls 6 [(0, .ref g0), (1, .int x1), (2, .int (nI N))] := hl
  refine lv_iconst (v := 0) hx hb dX1_findType_0 (by decide) ?_
  refine lv_istore_n (lv' := [(3, .int 0), (0, .ref g0), (1, .int x1), (2, .int (nI N))]) hx hb dX1_findType_1 rfl hl (by decide) rfl (fun ls hl => ?_)
  suffices oloop : ∀ (n t : Nat), t + n = mt → fnd (fQ tr tm tp np x1 N) n t = (fnd (fQ tr tm tp np x1 N) mt 0) → ∀ (ls : Array Slot), lv_has ls 6 [(3, .int (nI t)), (0, .ref g0), (1, .int x1), (2, .int (nI N))] → W p l e (headSpec wsZ1_findType ({ frames := 0, cells := 0, slots := 0, locals := 0 })).room s m ([.ref g0, .int x1, .int (nI N)] : List Value).toArray below meth c s.heap [] 0 0 (MQ below (k2_QcV (.int (oI (fnd (fQ tr tm tp np x1 N) mt 0)))) ([.ref g0, .int x1, .int (nI N)] : List Value).toArray s 0 0 kNo) (F0 m 2 ls []) by
    exact oloop mt 0 (by omega) rfl ls (lv_sub hl [0, 1, 2, 3] rfl)
  intro n
  induction n with
  | zero =>
    intro t ht0 he ls hl
    refine lv_iload_n hx hb dX1_findType_2 rfl (lv_at hl 0 rfl) ?_
    refine lv_aload_n hx hb dX1_findType_3 rfl (lv_at hl 1 rfl) ?_
    refine va_get (D := (dC, dI)) (ci := 1) (v := .int (nI mt)) (C := RX1) (T := TX1) (N := 13) hx hb hts hin hown hK hP 0 rfl rfl 5 (by decide) (hts _ (List.mem_cons_of_mem _ tk_fl_51)) (fun _ h9 => h9) rfl dX1_findType_4 ?_
    refine lv_icmp_ge (tgt := 99) hx hb dX1_findType_7 (by decide) (fun c7 => ?_) (fun c7 => ?_)
    · refine lv_iconst (v := -1) hx hb dX1_findType_99 (by decide) ?_
      exact W.iret hx hb hr (fun t ht hW => ⟨by rw [← he] <;> rfl, ht⟩) (fun _ h => by cases h) dX1_findType_100
    · exact absurd (nI_le (by omega) (by omega)) c7
  | succ n iho =>
    intro t ht0 he ls hl
    refine lv_iload_n hx hb dX1_findType_2 rfl (lv_at hl 0 rfl) ?_
    refine lv_aload_n hx hb dX1_findType_3 rfl (lv_at hl 1 rfl) ?_
    refine va_get (D := (dC, dI)) (ci := 1) (v := .int (nI mt)) (C := RX1) (T := TX1) (N := 13) hx hb hts hin hown hK hP 0 rfl rfl 5 (by decide) (hts _ (List.mem_cons_of_mem _ tk_fl_51)) (fun _ h9 => h9) rfl dX1_findType_4 ?_
    refine lv_icmp_ge (tgt := 99) hx hb dX1_findType_7 (by decide) (fun c7 => ?_) (fun c7 => ?_)
    · exact absurd ((nI_leI (by omega) (by omega)).mp c7) (by omega)
    · refine lv_aload_n hx hb dX1_findType_10 rfl (lv_at hl 1 rfl) ?_
      refine va_get (D := (dC, dI)) (ci := 1) (v := .ref gr) (C := RX1) (T := TX1) (N := 13) hx hb hts hin hown hK hP 0 rfl rfl 2 (by decide) (hts _ (List.mem_cons_of_mem _ tk_fl_13)) (fun _ h9 => h9) rfl dX1_findType_11 ?_
      refine lv_iload_n hx hb dX1_findType_14 rfl (lv_at hl 0 rfl) ?_
      refine va_iald hx hb hK hP 2 0 rfl rfl (vp_in_nI (by omega) (by decide)) dX1_findType_15 ?_
      refine kv_topi (y := tr t) (by rw [nI_clamp (by omega)]) ?_
      refine lv_iload_n hx hb dX1_findType_16 rfl (lv_at hl 2 rfl) ?_
      refine lv_icmp_ne (tgt := 34) hx hb dX1_findType_17 (by decide) (fun c17 => ?_) (fun c17 => ?_)
      · refine lv_iconst (v := 0) hx hb dX1_findType_34 (by decide) ?_
        refine lv_istore (lv' := [(4, .int 0), (3, .int (nI t)), (0, .ref g0), (1, .int x1), (2, .int (nI N))]) hx hb dX1_findType_35 hl (by decide) rfl (fun ls hl => ?_)
        refine lv_iconst (v := 0) hx hb dX1_findType_37 (by decide) ?_
        refine lv_istore (lv' := [(5, .int 0), (4, .int 0), (3, .int (nI t)), (0, .ref g0), (1, .int x1), (2, .int (nI N))]) hx hb dX1_findType_38 hl (by decide) rfl (fun ls hl => ?_)
        refine lv_iload hx hb dX1_findType_40 (lv_at hl 0 rfl) ?_
        refine lv_iload_n hx hb dX1_findType_42 rfl (lv_at hl 5 rfl) ?_
        refine lv_icmp_ge (tgt := 86) hx hb dX1_findType_43 (by decide) (fun c43 => ?_) (fun c43 => ?_)
        · refine lv_iload hx hb dX1_findType_86 (lv_at hl 1 rfl) ?_
          refine lv_if_eq (tgt := 93) hx hb dX1_findType_88 (by decide) (fun c88 => ?_) (fun c88 => ?_)
          · refine lv_iinc (v := nI (t + 1)) (lv' := [(3, .int (nI (t + 1))), (5, .int 0), (4, .int 0), (0, .ref g0), (1, .int x1), (2, .int (nI N))]) hx hb dX1_findType_93 hl (k := 2) rfl (nI_1 t) (by decide) rfl (fun ls hl => ?_)
            refine lv_goto (tgt := 2) hx hb dX1_findType_96 (by decide) ?_
            exact iho (t + 1) (by omega) (by rw [← he, fnd, if_neg (by rw [fQ, decide_eq_false c17]; simp)]) ls (lv_sub hl [0, 3, 4, 5] rfl)
          · exact absurd rfl c88
        · refine lv_iload hx hb dX1_findType_46 (lv_at hl 1 rfl) ?_
          refine lv_if_eq (tgt := 86) hx hb dX1_findType_48 (by decide) (fun c48 => ?_) (fun c48 => ?_)
          · refine lv_iload hx hb dX1_findType_86 (lv_at hl 1 rfl) ?_
            refine lv_if_eq (tgt := 93) hx hb dX1_findType_88 (by decide) (fun c88 => ?_) (fun c88 => ?_)
            · refine lv_iinc (v := nI (t + 1)) (lv' := [(3, .int (nI (t + 1))), (5, .int 0), (4, .int 0), (0, .ref g0), (1, .int x1), (2, .int (nI N))]) hx hb dX1_findType_93 hl (k := 2) rfl (nI_1 t) (by decide) rfl (fun ls hl => ?_)
              refine lv_goto (tgt := 2) hx hb dX1_findType_96 (by decide) ?_
              exact iho (t + 1) (by omega) (by rw [← he, fnd, if_neg (by rw [fQ, decide_eq_false c17]; simp)]) ls (lv_sub hl [0, 3, 4, 5] rfl)
            · exact absurd rfl c88
          · exact absurd rfl c48
      · refine lv_aload_n hx hb dX1_findType_20 rfl (lv_at hl 1 rfl) ?_
        refine va_get (D := (dC, dI)) (ci := 1) (v := .ref gm) (C := RX1) (T := TX1) (N := 13) hx hb hts hin hown hK hP 0 rfl rfl 3 (by decide) (hts _ (List.mem_cons_of_mem _ tk_fl_16)) (fun _ h9 => h9) rfl dX1_findType_21 ?_
        refine lv_iload_n hx hb dX1_findType_24 rfl (lv_at hl 0 rfl) ?_
        refine va_iald hx hb hK hP 3 0 rfl rfl (vp_in_nI (by omega) (by decide)) dX1_findType_25 ?_
        refine kv_topi (y := tm t) (by rw [nI_clamp (by omega)]) ?_
        refine lv_iload_n hx hb dX1_findType_26 rfl (lv_at hl 3 rfl) ?_
        refine lv_icmp_ne (tgt := 34) hx hb dX1_findType_27 (by decide) (fun c27 => ?_) (fun c27 => ?_)
        · refine lv_iconst (v := 0) hx hb dX1_findType_34 (by decide) ?_
          refine lv_istore (lv' := [(4, .int 0), (3, .int (nI t)), (0, .ref g0), (1, .int x1), (2, .int (nI N))]) hx hb dX1_findType_35 hl (by decide) rfl (fun ls hl => ?_)
          refine lv_iconst (v := 0) hx hb dX1_findType_37 (by decide) ?_
          refine lv_istore (lv' := [(5, .int 0), (4, .int 0), (3, .int (nI t)), (0, .ref g0), (1, .int x1), (2, .int (nI N))]) hx hb dX1_findType_38 hl (by decide) rfl (fun ls hl => ?_)
          refine lv_iload hx hb dX1_findType_40 (lv_at hl 0 rfl) ?_
          refine lv_iload_n hx hb dX1_findType_42 rfl (lv_at hl 5 rfl) ?_
          refine lv_icmp_ge (tgt := 86) hx hb dX1_findType_43 (by decide) (fun c43 => ?_) (fun c43 => ?_)
          · refine lv_iload hx hb dX1_findType_86 (lv_at hl 1 rfl) ?_
            refine lv_if_eq (tgt := 93) hx hb dX1_findType_88 (by decide) (fun c88 => ?_) (fun c88 => ?_)
            · refine lv_iinc (v := nI (t + 1)) (lv' := [(3, .int (nI (t + 1))), (5, .int 0), (4, .int 0), (0, .ref g0), (1, .int x1), (2, .int (nI N))]) hx hb dX1_findType_93 hl (k := 2) rfl (nI_1 t) (by decide) rfl (fun ls hl => ?_)
              refine lv_goto (tgt := 2) hx hb dX1_findType_96 (by decide) ?_
              exact iho (t + 1) (by omega) (by rw [← he, fnd, if_neg (by rw [fQ, decide_eq_false c27]; simp)]) ls (lv_sub hl [0, 3, 4, 5] rfl)
            · exact absurd rfl c88
          · refine lv_iload hx hb dX1_findType_46 (lv_at hl 1 rfl) ?_
            refine lv_if_eq (tgt := 86) hx hb dX1_findType_48 (by decide) (fun c48 => ?_) (fun c48 => ?_)
            · refine lv_iload hx hb dX1_findType_86 (lv_at hl 1 rfl) ?_
              refine lv_if_eq (tgt := 93) hx hb dX1_findType_88 (by decide) (fun c88 => ?_) (fun c88 => ?_)
              · refine lv_iinc (v := nI (t + 1)) (lv' := [(3, .int (nI (t + 1))), (5, .int 0), (4, .int 0), (0, .ref g0), (1, .int x1), (2, .int (nI N))]) hx hb dX1_findType_93 hl (k := 2) rfl (nI_1 t) (by decide) rfl (fun ls hl => ?_)
                refine lv_goto (tgt := 2) hx hb dX1_findType_96 (by decide) ?_
                exact iho (t + 1) (by omega) (by rw [← he, fnd, if_neg (by rw [fQ, decide_eq_false c27]; simp)]) ls (lv_sub hl [0, 3, 4, 5] rfl)
              · exact absurd rfl c88
            · exact absurd rfl c48
        · refine lv_iconst (v := 1) hx hb dX1_findType_30 (by decide) ?_
          refine lv_goto (tgt := 35) hx hb dX1_findType_31 (by decide) ?_
          refine lv_istore (lv' := [(4, .int 1), (3, .int (nI t)), (0, .ref g0), (1, .int x1), (2, .int (nI N))]) hx hb dX1_findType_35 hl (by decide) rfl (fun ls hl => ?_)
          refine lv_iconst (v := 0) hx hb dX1_findType_37 (by decide) ?_
          refine lv_istore (lv' := [(5, .int 0), (4, .int 1), (3, .int (nI t)), (0, .ref g0), (1, .int x1), (2, .int (nI N))]) hx hb dX1_findType_38 hl (by decide) rfl (fun ls hl => ?_)
          suffices iloop : ∀ (n2 k : Nat) (b : Bool), k + n2 = N → b = mall (fun k => decide (tp (10 * t + k) = np k)) k → ∀ (ls : Array Slot), lv_has ls 6 [(5, .int (nI k)), (4, .int (bI b)), (3, .int (nI t)), (0, .ref g0), (1, .int x1), (2, .int (nI N))] → W p l e (headSpec wsZ1_findType ({ frames := 0, cells := 0, slots := 0, locals := 0 })).room s m ([.ref g0, .int x1, .int (nI N)] : List Value).toArray below meth c s.heap [] 0 0 (MQ below (k2_QcV (.int (oI (fnd (fQ tr tm tp np x1 N) mt 0)))) ([.ref g0, .int x1, .int (nI N)] : List Value).toArray s 0 0 kNo) (F0 m 40 ls []) by
            exact iloop N 0 true (by omega) rfl ls (lv_sub hl [0, 1, 2, 3, 4, 5] rfl)
          intro n2
          induction n2 with
          | zero =>
            intro k b hd hfb ls hl
            obtain rfl : N = k := by omega
            refine lv_iload hx hb dX1_findType_40 (lv_at hl 0 rfl) ?_
            refine lv_iload_n hx hb dX1_findType_42 rfl (lv_at hl 5 rfl) ?_
            refine lv_icmp_ge (tgt := 86) hx hb dX1_findType_43 (by decide) (fun c43 => ?_) (fun c43 => ?_)
            · refine lv_iload hx hb dX1_findType_86 (lv_at hl 1 rfl) ?_
              refine lv_if_eq (tgt := 93) hx hb dX1_findType_88 (by decide) (fun c88 => ?_) (fun c88 => ?_)
              · refine lv_iinc (v := nI (t + 1)) (lv' := [(3, .int (nI (t + 1))), (5, .int (nI N)), (4, .int (bI b)), (0, .ref g0), (1, .int x1), (2, .int (nI N))]) hx hb dX1_findType_93 hl (k := 2) rfl (nI_1 t) (by decide) rfl (fun ls hl => ?_)
                refine lv_goto (tgt := 2) hx hb dX1_findType_96 (by decide) ?_
                exact iho (t + 1) (by omega) (by rw [← he, fnd, if_neg (by rw [fQ, ← hfb, bI_e0 c88]; simp)]) ls (lv_sub hl [0, 3, 4, 5] rfl)
              · refine lv_iload_n hx hb dX1_findType_91 rfl (lv_at hl 2 rfl) ?_
                exact W.iret hx hb hr (fun t ht hW => ⟨by rw [← he, fnd, if_pos (by rw [fQ, ← hfb, decide_eq_true c17, decide_eq_true c27, bI_n0 c88] <;> rfl)] <;> rfl, ht⟩) (fun _ h => by cases h) dX1_findType_92
            · exact absurd (nI_le (Nat.le_refl _) (by omega)) c43
          | succ n2 ih =>
            intro k b hd hfb ls hl
            refine lv_iload hx hb dX1_findType_40 (lv_at hl 0 rfl) ?_
            refine lv_iload_n hx hb dX1_findType_42 rfl (lv_at hl 5 rfl) ?_
            refine lv_icmp_ge (tgt := 86) hx hb dX1_findType_43 (by decide) (fun c43 => ?_) (fun c43 => ?_)
            · exact absurd ((nI_leI (by omega) (by omega)).mp c43) (by omega)
            · refine lv_iload hx hb dX1_findType_46 (lv_at hl 1 rfl) ?_
              refine lv_if_eq (tgt := 86) hx hb dX1_findType_48 (by decide) (fun c48 => ?_) (fun c48 => ?_)
              · refine lv_iload hx hb dX1_findType_86 (lv_at hl 1 rfl) ?_
                refine lv_if_eq (tgt := 93) hx hb dX1_findType_88 (by decide) (fun c88 => ?_) (fun c88 => ?_)
                · refine lv_iinc (v := nI (t + 1)) (lv' := [(3, .int (nI (t + 1))), (5, .int (nI k)), (4, .int (bI b)), (0, .ref g0), (1, .int x1), (2, .int (nI N))]) hx hb dX1_findType_93 hl (k := 2) rfl (nI_1 t) (by decide) rfl (fun ls hl => ?_)
                  refine lv_goto (tgt := 2) hx hb dX1_findType_96 (by decide) ?_
                  exact iho (t + 1) (by omega) (by rw [← he, fnd, if_neg (by rw [fQ, mall_mono (d := k) (by omega) (by rw [← hfb, bI_e0 c48])]; simp)]) ls (lv_sub hl [0, 3, 4, 5] rfl)
                · exact absurd c48 c88
              · refine lv_aload_n hx hb dX1_findType_51 rfl (lv_at hl 3 rfl) ?_
                refine va_get (D := (dC, dI)) (ci := 1) (v := .ref gl) (C := RX1) (T := TX1) (N := 13) hx hb hts hin hown hK hP 0 rfl rfl 4 (by decide) (hts _ (List.mem_cons_of_mem _ tk_fl_19)) (fun _ h9 => h9) rfl dX1_findType_52 ?_
                refine lv_bipush (v := 10) hx hb dX1_findType_55 (by decide) ?_
                refine lv_iload_n hx hb dX1_findType_57 rfl (lv_at hl 2 rfl) ?_
                refine lv_imul hx hb dX1_findType_58 ?_
                refine lv_iload hx hb dX1_findType_59 (lv_at hl 0 rfl) ?_
                refine lv_iadd hx hb dX1_findType_61 ?_
                refine kv_topi (y := nI (10 * t + k)) ix10 ?_
                refine va_iald hx hb hK hP 4 0 rfl rfl (vp_in_nI (by omega) (by decide)) dX1_findType_62 ?_
                refine kv_topi (y := tp (10 * t + k)) (by rw [nI_clamp (by omega)]) ?_
                refine lv_aload_n hx hb dX1_findType_63 rfl (lv_at hl 3 rfl) ?_
                refine va_get (D := (dC, dI)) (ci := 1) (v := .ref gn) (C := RX1) (T := TX1) (N := 13) hx hb hts hin hown hK hP 0 rfl rfl 10 (by decide) (hts _ (List.mem_cons_of_mem _ tk_fl_25)) (fun _ h9 => h9) rfl dX1_findType_64 ?_
                refine lv_iload hx hb dX1_findType_67 (lv_at hl 0 rfl) ?_
                refine va_iald hx hb hK hP 6 0 rfl rfl (vp_in_nI (by omega) (by decide)) dX1_findType_69 ?_
                refine kv_topi (y := np k) (by rw [nI_clamp (by omega)]) ?_
                refine lv_icmp_ne (tgt := 77) hx hb dX1_findType_70 (by decide) (fun c70 => ?_) (fun c70 => ?_)
                · refine lv_iconst (v := 0) hx hb dX1_findType_77 (by decide) ?_
                  refine lv_istore (lv' := [(4, .int 0), (5, .int (nI k)), (3, .int (nI t)), (0, .ref g0), (1, .int x1), (2, .int (nI N))]) hx hb dX1_findType_78 hl (by decide) rfl (fun ls hl => ?_)
                  refine lv_iinc (v := nI (k + 1)) (lv' := [(5, .int (nI (k + 1))), (4, .int 0), (3, .int (nI t)), (0, .ref g0), (1, .int x1), (2, .int (nI N))]) hx hb dX1_findType_80 hl (k := 1) rfl (nI_1 k) (by decide) rfl (fun ls hl => ?_)
                  refine lv_goto (tgt := 40) hx hb dX1_findType_83 (by decide) ?_
                  exact ih (k + 1) false (by omega) (by rw [mall, ← hfb, bI_n0 c48, decide_eq_false c70] <;> rfl) ls (lv_sub hl [0, 1, 2, 3, 4, 5] rfl)
                · refine lv_iconst (v := 1) hx hb dX1_findType_73 (by decide) ?_
                  refine lv_goto (tgt := 78) hx hb dX1_findType_74 (by decide) ?_
                  refine lv_istore (lv' := [(4, .int 1), (5, .int (nI k)), (3, .int (nI t)), (0, .ref g0), (1, .int x1), (2, .int (nI N))]) hx hb dX1_findType_78 hl (by decide) rfl (fun ls hl => ?_)
                  refine lv_iinc (v := nI (k + 1)) (lv' := [(5, .int (nI (k + 1))), (4, .int 1), (3, .int (nI t)), (0, .ref g0), (1, .int x1), (2, .int (nI N))]) hx hb dX1_findType_80 hl (k := 1) rfl (nI_1 k) (by decide) rfl (fun ls hl => ?_)
                  refine lv_goto (tgt := 40) hx hb dX1_findType_83 (by decide) ?_
                  exact ih (k + 1) true (by omega) (by rw [mall, ← hfb, bI_n0 c48, decide_eq_true c70] <;> rfl) ls (lv_sub hl [0, 1, 2, 3, 4, 5] rfl)
set_option maxHeartbeats 4000000 in
set_option maxRecDepth 100000 in
theorem cM_madeType (l : Launch) (dC : Nat → ClassId) (dI : Nat → Nat → Nat) (g0 gp gr gm gl gw gn : Nat) (cI : ClassId) (pv : Nat → Int32) (nc : Nat) (tr : Nat → Int32) (tm : Nat → Int32) (tp : Nat → Int32) (mt : Nat) (wv : Nat → Int32) (nw : Nat) (re : Int32) (nm : Nat) (np : Nat → Int32) (kk : Int32) (kn : Int64) (hmt : mt ≤ 300) (hnm : nm ≤ 32) : Met l yX1_madeType wsZ1_madeType ({ frames := 1, cells := 0, slots := 0, locals := 25 }) (kPw (dC, dI) vwCl [(cI, .int)] (mW g0 gp gr gm gl gw gn cI pv nc tr tm tp mt wv nw re nm np kk kn) [.ref g0]) (kQw (dC, dI) vwCl (some (.int (if nm ≤ 10 then nbR (fnd (fQ tr tm tp np re nm) mt 0) mt else (-1 : Int32)))) (mW g0 gp gr gm gl gw gn cI pv nc (if nm ≤ 10 then nbV (fnd (fQ tr tm tp np re nm) mt 0) mt tr (upd tr mt re) else tr) (if nm ≤ 10 then nbV (fnd (fQ tr tm tp np re nm) mt 0) mt tm (upd tm mt (nI nm)) else tm) (if nm ≤ 10 then nbV (fnd (fQ tr tm tp np re nm) mt 0) mt tp (tpC tp np mt nm) else tp) (if nm ≤ 10 then nbN (fnd (fQ tr tm tp np re nm) mt 0) mt else mt) wv nw re nm np kk kn) [g0, gp, gr, gm, gl, gw, gn]) 0 0 (fun q => q ∈ [g0, gp, gr, gm, gl, gw, gn]) := by
  refine Met.ofW (cc := cX1_madeType) (maxL := 3) (ret := (some .int)) (by decide) rfl ?_
  intro p e s m args below meth c s₁ B hml hv
  obtain ⟨rfl, hP, hK, hD0⟩ := hv
  have hx := B.exec
  have hb := B.bytes
  have hr := B.returns
  have hts := atoms_spec (ws := wsZ1_madeType) B.pre
  have hown : s.vm.findClass RX1 = some m.cls := findClass_of_methodNamed B.named
  have hlocks := B.notSynchronized
  have hin : ∀ w ∈ u_ws RX1 TX1 13, w ∈ wsZ1_madeType := fun w h => List.mem_cons_of_mem _ (inZ1 w h)
  have hD : va_D (fun q => q ∈ [g0, gp, gr, gm, gl, gw, gn]) (mW g0 gp gr gm gl gw gn cI pv nc tr tm tp mt wv nw re nm np kk kn) := kD_self hD0 rfl
  have hS : va_S (fun q => q ∈ [g0, gp, gr, gm, gl, gw, gn]) s.heap s.heap [] := va_S.rf
  have hl := lv_entry ([.ref g0]) (n := 3) (Nat.le_of_ble_eq_true rfl)
  rw [lg_entry_eq]
  generalize (lg_sl ([.ref g0]) ++ List.replicate (3 - (lg_sl ([.ref g0])).length) Slot.unset).toArray = ls at hl ⊢
  have hl : lv_has ls 3 [(0, .ref g0)] := hl
  refine lv_aload_n hx hb dX1_madeType_0 rfl (lv_at hl 0 rfl) ?_
  refine va_get (D := (dC, dI)) (ci := 1) (v := .int (nI nm)) (C := RX1) (T := TX1) (N := 13) hx hb hts hin hown hK hP 0 rfl rfl 9 (by decide) (hts _ (List.mem_cons_of_mem _ tk_fl_54)) (fun _ h9 => h9) rfl dX1_madeType_1 ?_
  refine lv_bipush (v := 10) hx hb dX1_madeType_4 (by decide) ?_
  refine lv_icmp_le (tgt := 11) hx hb dX1_madeType_6 (by decide) (fun c6 => ?_) (fun c6 => ?_)
  · refine lv_aload_n hx hb dX1_madeType_11 rfl (lv_at hl 0 rfl) ?_
    refine lv_aload_n hx hb dX1_madeType_12 rfl (lv_at hl 0 rfl) ?_
    refine va_get (D := (dC, dI)) (ci := 1) (v := .int re) (C := RX1) (T := TX1) (N := 13) hx hb hts hin hown hK hP 0 rfl rfl 8 (by decide) (hts _ (List.mem_cons_of_mem _ tk_fl_57)) (fun _ h9 => h9) rfl dX1_madeType_13 ?_
    refine lv_aload_n hx hb dX1_madeType_16 rfl (lv_at hl 0 rfl) ?_
    refine va_get (D := (dC, dI)) (ci := 1) (v := .int (nI nm)) (C := RX1) (T := TX1) (N := 13) hx hb hts hin hown hK hP 0 rfl rfl 9 (by decide) (hts _ (List.mem_cons_of_mem _ tk_fl_54)) (fun _ h9 => h9) rfl dX1_madeType_17 ?_
    refine kc_R [.int re, .int (nI nm)] [] ⟨hx, hb, hml, hown, hts⟩ (cM_findType l dC dI g0 gp gr gm gl gw gn cI pv nc tr tm tp mt wv nw re nm np kk kn re nm hmt (mnm hnm c6)) (cwV 2 hts gZ_madeType_findType rfl rfl rfl (by decide +kernel) ⟨(Nat.le_of_ble_eq_true rfl), (Nat.le_of_ble_eq_true rfl)⟩) hP hK (ci := 1) (q0 := 0) rfl rfl rfl rfl hl.1 rfl (Nat.le_of_ble_eq_true rfl) dX1_madeType_20 ⟨Nat.zero_le _, Nat.zero_le _⟩ ?_
    refine lv_istore_n (lv' := [(1, .int (oI (fnd (fQ tr tm tp np re nm) mt 0))), (0, .ref g0)]) hx hb dX1_madeType_23 rfl hl (by decide) rfl (fun ls hl => ?_)
    refine lv_iload_n hx hb dX1_madeType_24 rfl (lv_at hl 0 rfl) ?_
    refine lv_iconst (v := -1) hx hb dX1_madeType_25 (by decide) ?_
    refine lv_icmp_ne (tgt := 39) hx hb dX1_madeType_26 (by decide) (fun c26 => ?_) (fun c26 => ?_)
    · obtain ⟨z, hz⟩ := oI_some c26
      refine lv_iload_n hx hb dX1_madeType_39 rfl (lv_at hl 0 rfl) ?_
      exact W.iret hx hb hr (fun t ht hW => ⟨by rw [if_pos (mnm hnm c6), hz] <;> rfl, by rw [ht]; simp only [if_pos (mnm hnm c6), hz]; exact hP, hS.F ht⟩) hS.2.2 dX1_madeType_40
    · have ho : (fnd (fQ tr tm tp np re nm) mt 0) = none := oI_none hmt c26
      refine lv_aload_n hx hb dX1_madeType_29 rfl (lv_at hl 1 rfl) ?_
      refine va_get (D := (dC, dI)) (ci := 1) (v := .int (nI mt)) (C := RX1) (T := TX1) (N := 13) hx hb hts hin hown hK hP 0 rfl rfl 5 (by decide) (hts _ (List.mem_cons_of_mem _ tk_fl_51)) (fun _ h9 => h9) rfl dX1_madeType_30 ?_
      refine lv_sipush (v := 300) hx hb dX1_madeType_33 (by decide) ?_
      refine lv_icmp_ne (tgt := 41) hx hb dX1_madeType_36 (by decide) (fun c36 => ?_) (fun c36 => ?_)
      · have hm300 : mt < 300 := by have h3 : ¬ mt = 300 := (fun q : mt = 300 => c36 (by rw [q]; rfl)); omega
        have hnm10 : nm ≤ 10 := (mnm hnm c6)
        refine lv_aload_n hx hb dX1_madeType_41 rfl (lv_at hl 1 rfl) ?_
        refine va_get (D := (dC, dI)) (ci := 1) (v := .ref gr) (C := RX1) (T := TX1) (N := 13) hx hb hts hin hown hK hP 0 rfl rfl 2 (by decide) (hts _ (List.mem_cons_of_mem _ tk_fl_13)) (fun _ h9 => h9) rfl dX1_madeType_42 ?_
        refine lv_aload_n hx hb dX1_madeType_45 rfl (lv_at hl 1 rfl) ?_
        refine va_get (D := (dC, dI)) (ci := 1) (v := .int (nI mt)) (C := RX1) (T := TX1) (N := 13) hx hb hts hin hown hK hP 0 rfl rfl 5 (by decide) (hts _ (List.mem_cons_of_mem _ tk_fl_51)) (fun _ h9 => h9) rfl dX1_madeType_46 ?_
        refine lv_aload_n hx hb dX1_madeType_49 rfl (lv_at hl 1 rfl) ?_
        refine va_get (D := (dC, dI)) (ci := 1) (v := .int re) (C := RX1) (T := TX1) (N := 13) hx hb hts hin hown hK hP 0 rfl rfl 8 (by decide) (hts _ (List.mem_cons_of_mem _ tk_fl_57)) (fun _ h9 => h9) rfl dX1_madeType_50 ?_
        refine va_iast hx hb hK hP hD hS 2 0 rfl rfl (vp_in_nI hm300 (by decide)) dX1_madeType_53 (fun H locs hP hD hS => ?_)
        have e_as : upd tr (nI mt).toNatClampNeg re = upd tr mt re := by rw [nI_clamp (by omega)]
        have hP : va_P (dC, dI) vwCl (mW g0 gp gr gm gl gw gn cI pv nc (upd tr mt re) tm tp mt wv nw re nm np kk kn) H := by rw [← e_as]; exact hP
        have hD : va_D (fun q => q ∈ [g0, gp, gr, gm, gl, gw, gn]) (mW g0 gp gr gm gl gw gn cI pv nc (upd tr mt re) tm tp mt wv nw re nm np kk kn) := by rw [← e_as]; exact hD
        refine lv_aload_n hx hb dX1_madeType_54 rfl (lv_at hl 1 rfl) ?_
        refine va_get (D := (dC, dI)) (ci := 1) (v := .ref gm) (C := RX1) (T := TX1) (N := 13) hx hb hts hin hown hK hP 0 rfl rfl 3 (by decide) (hts _ (List.mem_cons_of_mem _ tk_fl_16)) (fun _ h9 => h9) rfl dX1_madeType_55 ?_
        refine lv_aload_n hx hb dX1_madeType_58 rfl (lv_at hl 1 rfl) ?_
        refine va_get (D := (dC, dI)) (ci := 1) (v := .int (nI mt)) (C := RX1) (T := TX1) (N := 13) hx hb hts hin hown hK hP 0 rfl rfl 5 (by decide) (hts _ (List.mem_cons_of_mem _ tk_fl_51)) (fun _ h9 => h9) rfl dX1_madeType_59 ?_
        refine lv_aload_n hx hb dX1_madeType_62 rfl (lv_at hl 1 rfl) ?_
        refine va_get (D := (dC, dI)) (ci := 1) (v := .int (nI nm)) (C := RX1) (T := TX1) (N := 13) hx hb hts hin hown hK hP 0 rfl rfl 9 (by decide) (hts _ (List.mem_cons_of_mem _ tk_fl_54)) (fun _ h9 => h9) rfl dX1_madeType_63 ?_
        refine va_iast hx hb hK hP hD hS 3 0 rfl rfl (vp_in_nI hm300 (by decide)) dX1_madeType_66 (fun H locs hP hD hS => ?_)
        have e_as : upd tm (nI mt).toNatClampNeg (nI nm) = upd tm mt (nI nm) := by rw [nI_clamp (by omega)]
        have hP : va_P (dC, dI) vwCl (mW g0 gp gr gm gl gw gn cI pv nc (upd tr mt re) (upd tm mt (nI nm)) tp mt wv nw re nm np kk kn) H := by rw [← e_as]; exact hP
        have hD : va_D (fun q => q ∈ [g0, gp, gr, gm, gl, gw, gn]) (mW g0 gp gr gm gl gw gn cI pv nc (upd tr mt re) (upd tm mt (nI nm)) tp mt wv nw re nm np kk kn) := by rw [← e_as]; exact hD
        refine lv_iconst (v := 0) hx hb dX1_madeType_67 (by decide) ?_
        refine lv_istore_n (lv' := [(2, .int 0), (1, .int (oI (fnd (fQ tr tm tp np re nm) mt 0))), (0, .ref g0)]) hx hb dX1_madeType_68 rfl hl (by decide) rfl (fun ls hl => ?_)
        suffices loop : ∀ (n k : Nat), k + n = nm → ∀ (H : Heap) (locs : List Loc), va_P (dC, dI) vwCl (mW g0 gp gr gm gl gw gn cI pv nc (upd tr mt re) (upd tm mt (nI nm)) (tpC tp np mt k) mt wv nw re nm np kk kn) H → va_D (fun q => q ∈ [g0, gp, gr, gm, gl, gw, gn]) (mW g0 gp gr gm gl gw gn cI pv nc (upd tr mt re) (upd tm mt (nI nm)) (tpC tp np mt k) mt wv nw re nm np kk kn) → va_S (fun q => q ∈ [g0, gp, gr, gm, gl, gw, gn]) s.heap H locs → ∀ (ls : Array Slot), lv_has ls 3 [(2, .int (nI k)), (1, .int (oI (fnd (fQ tr tm tp np re nm) mt 0))), (0, .ref g0)] → W p l e (headSpec wsZ1_madeType ({ frames := 1, cells := 0, slots := 0, locals := 25 })).room s m ([.ref g0] : List Value).toArray below meth c H locs 0 0 (MQ below (kQw (dC, dI) vwCl (some (.int (if nm ≤ 10 then nbR (fnd (fQ tr tm tp np re nm) mt 0) mt else (-1 : Int32)))) (mW g0 gp gr gm gl gw gn cI pv nc (if nm ≤ 10 then nbV (fnd (fQ tr tm tp np re nm) mt 0) mt tr (upd tr mt re) else tr) (if nm ≤ 10 then nbV (fnd (fQ tr tm tp np re nm) mt 0) mt tm (upd tm mt (nI nm)) else tm) (if nm ≤ 10 then nbV (fnd (fQ tr tm tp np re nm) mt 0) mt tp (tpC tp np mt nm) else tp) (if nm ≤ 10 then nbN (fnd (fQ tr tm tp np re nm) mt 0) mt else mt) wv nw re nm np kk kn) [g0, gp, gr, gm, gl, gw, gn]) ([.ref g0] : List Value).toArray s 0 0 (fun q => q ∈ [g0, gp, gr, gm, gl, gw, gn])) (F0 m 69 ls []) by
          exact loop nm 0 (by omega) H locs (by rw [tpC_0]; exact hP) (by rw [tpC_0]; exact hD) hS ls (lv_sub hl [0, 1, 2] rfl)
        intro n
        induction n with
        | zero =>
          intro k hk H locs hP hD hS ls hl
          obtain rfl : nm = k := by omega
          refine lv_iload_n hx hb dX1_madeType_69 rfl (lv_at hl 0 rfl) ?_
          refine lv_aload_n hx hb dX1_madeType_70 rfl (lv_at hl 2 rfl) ?_
          refine va_get (D := (dC, dI)) (ci := 1) (v := .int (nI nm)) (C := RX1) (T := TX1) (N := 13) hx hb hts hin hown hK hP 0 rfl rfl 9 (by decide) (hts _ (List.mem_cons_of_mem _ tk_fl_54)) (fun _ h9 => h9) rfl dX1_madeType_71 ?_
          refine lv_icmp_ge (tgt := 103) hx hb dX1_madeType_74 (by decide) (fun c74 => ?_) (fun c74 => ?_)
          · refine lv_aload_n hx hb dX1_madeType_103 rfl (lv_at hl 2 rfl) ?_
            refine lv_dup hx hb dX1_madeType_104 rfl ?_
            refine va_get (D := (dC, dI)) (ci := 1) (v := .int (nI mt)) (C := RX1) (T := TX1) (N := 13) hx hb hts hin hown hK hP 0 rfl rfl 5 (by decide) (hts _ (List.mem_cons_of_mem _ tk_fl_51)) (fun _ h9 => h9) rfl dX1_madeType_105 ?_
            refine lv_iconst (v := 1) hx hb dX1_madeType_108 (by decide) ?_
            refine lv_iadd hx hb dX1_madeType_109 ?_
            refine kv_topi (y := nI (mt + 1)) (nI_1 mt) ?_
            refine va_put (D := (dC, dI)) (ci := 1) (v := .int (nI (mt + 1))) (ty := .int) (C := RX1) (T := TX1) (N := 13) hx hb hts hin tyX1 tyX1_ok nmX1 hown hK hP hD hS 0 rfl rfl 5 (by decide) (hts _ (List.mem_cons_of_mem _ tk_fl_51)) (fun _ h9 => h9) rfl (by decide +kernel) rfl rfl (Nat.le_of_ble_eq_true rfl) dX1_madeType_110 (fun H locs hP hD hS => ?_)
            have hP : va_P (dC, dI) vwCl (mW g0 gp gr gm gl gw gn cI pv nc (upd tr mt re) (upd tm mt (nI nm)) (tpC tp np mt nm) (mt + 1) wv nw re nm np kk kn) H := hP
            have hD : va_D _ (mW g0 gp gr gm gl gw gn cI pv nc (upd tr mt re) (upd tm mt (nI nm)) (tpC tp np mt nm) (mt + 1) wv nw re nm np kk kn) := hD
            refine lv_aload_n hx hb dX1_madeType_113 rfl (lv_at hl 2 rfl) ?_
            refine va_get (D := (dC, dI)) (ci := 1) (v := .int (nI (mt + 1))) (C := RX1) (T := TX1) (N := 13) hx hb hts hin hown hK hP 0 rfl rfl 5 (by decide) (hts _ (List.mem_cons_of_mem _ tk_fl_51)) (fun _ h9 => h9) rfl dX1_madeType_114 ?_
            refine lv_iconst (v := 1) hx hb dX1_madeType_117 (by decide) ?_
            refine lv_isub hx hb dX1_madeType_118 ?_
            refine kv_topi (y := nI mt) (nI_pred mt) ?_
            exact W.iret hx hb hr (fun t ht hW => ⟨by rw [if_pos (mnm hnm c6), ho, nbR_n (fun q : mt = 300 => c36 (by rw [q]; rfl))] <;> rfl, by rw [ht]; simp only [if_pos (mnm hnm c6), ho, nbV_n (fun q : mt = 300 => c36 (by rw [q]; rfl)), nbN_n (fun q : mt = 300 => c36 (by rw [q]; rfl))]; exact hP, hS.F ht⟩) hS.2.2 dX1_madeType_119
          · exact absurd (nI_le (by omega) (by omega)) c74
        | succ n ih =>
          intro k hk H locs hP hD hS ls hl
          refine lv_iload_n hx hb dX1_madeType_69 rfl (lv_at hl 0 rfl) ?_
          refine lv_aload_n hx hb dX1_madeType_70 rfl (lv_at hl 2 rfl) ?_
          refine va_get (D := (dC, dI)) (ci := 1) (v := .int (nI nm)) (C := RX1) (T := TX1) (N := 13) hx hb hts hin hown hK hP 0 rfl rfl 9 (by decide) (hts _ (List.mem_cons_of_mem _ tk_fl_54)) (fun _ h9 => h9) rfl dX1_madeType_71 ?_
          refine lv_icmp_ge (tgt := 103) hx hb dX1_madeType_74 (by decide) (fun c74 => ?_) (fun c74 => ?_)
          · exact absurd ((nI_leI (by omega) (by omega)).mp c74) (by omega)
          · refine lv_aload_n hx hb dX1_madeType_77 rfl (lv_at hl 2 rfl) ?_
            refine va_get (D := (dC, dI)) (ci := 1) (v := .ref gl) (C := RX1) (T := TX1) (N := 13) hx hb hts hin hown hK hP 0 rfl rfl 4 (by decide) (hts _ (List.mem_cons_of_mem _ tk_fl_19)) (fun _ h9 => h9) rfl dX1_madeType_78 ?_
            refine lv_bipush (v := 10) hx hb dX1_madeType_81 (by decide) ?_
            refine lv_aload_n hx hb dX1_madeType_83 rfl (lv_at hl 2 rfl) ?_
            refine va_get (D := (dC, dI)) (ci := 1) (v := .int (nI mt)) (C := RX1) (T := TX1) (N := 13) hx hb hts hin hown hK hP 0 rfl rfl 5 (by decide) (hts _ (List.mem_cons_of_mem _ tk_fl_51)) (fun _ h9 => h9) rfl dX1_madeType_84 ?_
            refine lv_imul hx hb dX1_madeType_87 ?_
            refine lv_iload_n hx hb dX1_madeType_88 rfl (lv_at hl 0 rfl) ?_
            refine lv_iadd hx hb dX1_madeType_89 ?_
            refine kv_topi (y := nI (10 * mt + k)) ix10 ?_
            refine lv_aload_n hx hb dX1_madeType_90 rfl (lv_at hl 2 rfl) ?_
            refine va_get (D := (dC, dI)) (ci := 1) (v := .ref gn) (C := RX1) (T := TX1) (N := 13) hx hb hts hin hown hK hP 0 rfl rfl 10 (by decide) (hts _ (List.mem_cons_of_mem _ tk_fl_25)) (fun _ h9 => h9) rfl dX1_madeType_91 ?_
            refine lv_iload_n hx hb dX1_madeType_94 rfl (lv_at hl 0 rfl) ?_
            refine va_iald hx hb hK hP 6 0 rfl rfl (vp_in_nI (by omega) (by decide)) dX1_madeType_95 ?_
            refine kv_topi (y := np k) (by rw [nI_clamp (by omega)]) ?_
            refine va_iast hx hb hK hP hD hS 4 0 rfl rfl (vp_in_nI (by omega) (by decide)) dX1_madeType_96 (fun H locs hP hD hS => ?_)
            have e_as : upd (tpC tp np mt k) (nI (10 * mt + k)).toNatClampNeg (np k) = tpC tp np mt (k + 1) := tpC_s (by omega)
            have hP : va_P (dC, dI) vwCl (mW g0 gp gr gm gl gw gn cI pv nc (upd tr mt re) (upd tm mt (nI nm)) (tpC tp np mt (k + 1)) mt wv nw re nm np kk kn) H := by rw [← e_as]; exact hP
            have hD : va_D (fun q => q ∈ [g0, gp, gr, gm, gl, gw, gn]) (mW g0 gp gr gm gl gw gn cI pv nc (upd tr mt re) (upd tm mt (nI nm)) (tpC tp np mt (k + 1)) mt wv nw re nm np kk kn) := by rw [← e_as]; exact hD
            refine lv_iinc (v := nI (k + 1)) (lv' := [(2, .int (nI (k + 1))), (1, .int (oI (fnd (fQ tr tm tp np re nm) mt 0))), (0, .ref g0)]) hx hb dX1_madeType_97 hl (k := 0) rfl (nI_1 k) (by decide) rfl (fun ls hl => ?_)
            refine lv_goto (tgt := 69) hx hb dX1_madeType_100 (by decide) ?_
            exact ih (k + 1) (by omega) _ _ hP hD hS ls (lv_sub hl [0, 1, 2] rfl)
      · refine lv_iload_n hx hb dX1_madeType_39 rfl (lv_at hl 0 rfl) ?_
        exact W.iret hx hb hr (fun t ht hW => ⟨by rw [if_pos (mnm hnm c6), ho, nbR_f (show mt = 300 from (nI_eq (b := 300) (by omega) (by decide)).mp c36)] <;> rfl, by rw [ht]; simp only [if_pos (mnm hnm c6), ho, nbV_f (show mt = 300 from (nI_eq (b := 300) (by omega) (by decide)).mp c36), nbN_f (show mt = 300 from (nI_eq (b := 300) (by omega) (by decide)).mp c36)]; exact hP, hS.F ht⟩) hS.2.2 dX1_madeType_40
  · refine lv_iconst (v := -1) hx hb dX1_madeType_9 (by decide) ?_
    exact W.iret hx hb hr (fun t ht hW => ⟨by rw [if_neg (mnmF c6)] <;> rfl, by rw [ht]; simp only [if_neg (mnmF c6)]; exact hP, hS.F ht⟩) hS.2.2 dX1_madeType_10
set_option maxHeartbeats 4000000 in
set_option maxRecDepth 100000 in
theorem cM_mayBe (l : Launch) (dC : Nat → ClassId) (dI : Nat → Nat → Nat) (g0 gp gr gm gl gw gn : Nat) (cI : ClassId) (pv : Nat → Int32) (nc : Nat) (tr : Nat → Int32) (tm : Nat → Int32) (tp : Nat → Int32) (mt : Nat) (wv : Nat → Int32) (nw : Nat) (re : Int32) (nm : Nat) (np : Nat → Int32) (kk : Int32) (kn : Int64) (bl : Nat → Nat → Bool) (pr : Nat → Nat) (tM : Nat → Nat) (x1 : Int32) (x2 : Int32) (x3 : Bool) (hPV : kPV pv pr nc) (hBL : kBL bl pr nc) (hnc : nc ≤ 12) (hmt : mt ≤ 300) (hTM : kTM tm tM mt) (hTP : kTP tr tp tM mt) : Met l yX1_mayBe wsZ1_mayBe ({ frames := 3, cells := 0, slots := 0, locals := 67 }) (kPr (dC, dI) vwCl [(cI, .int)] (mW g0 gp gr gm gl gw gn cI pv nc tr tm tp mt wv nw re nm np kk kn) [.ref g0, .int x1, .int x2, .int (bI x3)]) (k2_QcV (.int (bI (fM_mayBe tr tm tp mt bl x1 x2 x3)))) 0 0 kNo := by
  refine Met.ofW (cc := cX1_mayBe) (maxL := 5) (ret := (some .boolean)) (by decide) rfl ?_
  intro p e s m args below meth c s₁ B hml hv
  obtain ⟨rfl, hP, hK⟩ := hv
  have hx := B.exec
  have hb := B.bytes
  have hr := B.returns
  have hts := atoms_spec (ws := wsZ1_mayBe) B.pre
  have hown : s.vm.findClass RX1 = some m.cls := findClass_of_methodNamed B.named
  have hlocks := B.notSynchronized
  have hin : ∀ w ∈ u_ws RX1 TX1 13, w ∈ wsZ1_mayBe := fun w h => List.mem_cons_of_mem _ (inZ1 w h)
  have hl := lv_entry ([.ref g0, .int x1, .int x2, .int (bI x3)]) (n := 5) (Nat.le_of_ble_eq_true rfl)
  rw [lg_entry_eq]
  generalize (lg_sl ([.ref g0, .int x1, .int x2, .int (bI x3)]) ++ List.replicate (5 - (lg_sl ([.ref g0, .int x1, .int x2, .int (bI x3)])).length) Slot.unset).toArray = ls at hl ⊢
  have hl : lv_has ls 5 [(0, .ref g0), (1, .int x1), (2, .int x2), (3, .int (bI x3))] := hl
  refine lv_aload_n hx hb dX1_mayBe_0 rfl (lv_at hl 0 rfl) ?_
  refine lv_iload_n hx hb dX1_mayBe_1 rfl (lv_at hl 1 rfl) ?_
  refine kc_R [.int x1] [] ⟨hx, hb, hml, hown, hts⟩ (cM_isType l dC dI g0 gp gr gm gl gw gn cI pv nc tr tm tp mt wv nw re nm np kk kn x1) (cwV 1 hts gZ_mayBe_isType rfl rfl rfl (by decide +kernel) ⟨(Nat.le_of_ble_eq_true rfl), (Nat.le_of_ble_eq_true rfl)⟩) hP hK (ci := 1) (q0 := 0) rfl rfl rfl rfl hl.1 rfl (Nat.le_of_ble_eq_true rfl) dX1_mayBe_2 ⟨Nat.zero_le _, Nat.zero_le _⟩ ?_
  refine lv_if_eq (tgt := 31) hx hb dX1_mayBe_5 (by decide) (fun c5 => ?_) (fun c5 => ?_)
  · refine lv_iconst (v := 0) hx hb dX1_mayBe_31 (by decide) ?_
    exact W.zret hx hb hr rfl (fun t ht hW => ⟨by rw [fM_mayBe, if_pos c5] <;> rfl, ht⟩) (fun _ h => by cases h) dX1_mayBe_32
  · refine lv_aload_n hx hb dX1_mayBe_8 rfl (lv_at hl 0 rfl) ?_
    refine lv_iload_n hx hb dX1_mayBe_9 rfl (lv_at hl 2 rfl) ?_
    refine kc_R [.int x2] [] ⟨hx, hb, hml, hown, hts⟩ (cM_isType l dC dI g0 gp gr gm gl gw gn cI pv nc tr tm tp mt wv nw re nm np kk kn x2) (cwV 1 hts gZ_mayBe_isType rfl rfl rfl (by decide +kernel) ⟨(Nat.le_of_ble_eq_true rfl), (Nat.le_of_ble_eq_true rfl)⟩) hP hK (ci := 1) (q0 := 0) rfl rfl rfl rfl hl.1 rfl (Nat.le_of_ble_eq_true rfl) dX1_mayBe_10 ⟨Nat.zero_le _, Nat.zero_le _⟩ ?_
    refine lv_if_eq (tgt := 31) hx hb dX1_mayBe_13 (by decide) (fun c13 => ?_) (fun c13 => ?_)
    · refine lv_iconst (v := 0) hx hb dX1_mayBe_31 (by decide) ?_
      exact W.zret hx hb hr rfl (fun t ht hW => ⟨by rw [fM_mayBe, if_neg c5, if_pos c13] <;> rfl, ht⟩) (fun _ h => by cases h) dX1_mayBe_32
    · obtain ⟨i, hi, rfl⟩ := vp_in_of (mT_in hmt c5) (by omega)
      obtain ⟨u, hu, rfl⟩ := vp_in_of (mT_in hmt c13) (by omega)
      have hti := (hTM i hi).2
      have htu := (hTM u hu).2
      refine lv_aload_n hx hb dX1_mayBe_16 rfl (lv_at hl 0 rfl) ?_
      refine va_get (D := (dC, dI)) (ci := 1) (v := .ref gm) (C := RX1) (T := TX1) (N := 13) hx hb hts hin hown hK hP 0 rfl rfl 3 (by decide) (hts _ (List.mem_cons_of_mem _ tk_fl_16)) (fun _ h9 => h9) rfl dX1_mayBe_17 ?_
      refine lv_iload_n hx hb dX1_mayBe_20 rfl (lv_at hl 1 rfl) ?_
      refine va_iald hx hb hK hP 3 0 rfl rfl (vp_in_nI (by omega) (by decide)) dX1_mayBe_21 ?_
      refine kv_topi (y := nI (tM i)) (by rw [nI_clamp (by omega), (hTM i hi).1]) ?_
      refine lv_aload_n hx hb dX1_mayBe_22 rfl (lv_at hl 0 rfl) ?_
      refine va_get (D := (dC, dI)) (ci := 1) (v := .ref gm) (C := RX1) (T := TX1) (N := 13) hx hb hts hin hown hK hP 0 rfl rfl 3 (by decide) (hts _ (List.mem_cons_of_mem _ tk_fl_16)) (fun _ h9 => h9) rfl dX1_mayBe_23 ?_
      refine lv_iload_n hx hb dX1_mayBe_26 rfl (lv_at hl 2 rfl) ?_
      refine va_iald hx hb hK hP 3 0 rfl rfl (vp_in_nI (by omega) (by decide)) dX1_mayBe_27 ?_
      refine kv_topi (y := nI (tM u)) (by rw [nI_clamp (by omega), (hTM u hu).1]) ?_
      refine lv_icmp_eq (tgt := 33) hx hb dX1_mayBe_28 (by decide) (fun c28 => ?_) (fun c28 => ?_)
      · refine lv_iconst (v := 0) hx hb dX1_mayBe_33 (by decide) ?_
        refine lv_istore (lv' := [(4, .int 0), (0, .ref g0), (1, .int (nI i)), (2, .int (nI u)), (3, .int (bI x3))]) hx hb dX1_mayBe_34 hl (by decide) rfl (fun ls hl => ?_)
        have hiu : tM i = tM u := (nI_eq (by omega) (by omega)).mp c28
        have hfn : fM_mayBe tr tm tp mt bl (nI i) (nI u) x3 = (mall (fun k => fM_mayPass bl (tp (10 * u + k)) (tp (10 * i + k)) x3 false) (tM i) && fM_mayPass bl (tr i) (tr u) x3 true) := by rw [fM_mayBe, if_neg c5, if_neg c13, nI_clamp (by omega), nI_clamp (by omega), (hTM i hi).1, (hTM u hu).1, if_pos c28, nI_clamp (by omega)]
        suffices loop : ∀ (n k : Nat), k + n = tM i → mall (fun k => fM_mayPass bl (tp (10 * u + k)) (tp (10 * i + k)) x3 false) k = true → ∀ (ls : Array Slot), lv_has ls 5 [(4, .int (nI k)), (0, .ref g0), (1, .int (nI i)), (2, .int (nI u)), (3, .int (bI x3))] → W p l e (headSpec wsZ1_mayBe ({ frames := 3, cells := 0, slots := 0, locals := 67 })).room s m ([.ref g0, .int (nI i), .int (nI u), .int (bI x3)] : List Value).toArray below meth c s.heap [] 0 0 (MQ below (k2_QcV (.int (bI (fM_mayBe tr tm tp mt bl (nI i) (nI u) x3)))) ([.ref g0, .int (nI i), .int (nI u), .int (bI x3)] : List Value).toArray s 0 0 kNo) (F0 m 36 ls []) by
          exact loop (tM i) 0 (by omega) rfl ls (lv_sub hl [0, 1, 2, 3, 4] rfl)
        intro n
        induction n with
        | zero =>
          intro k hk he ls hl
          refine lv_iload hx hb dX1_mayBe_36 (lv_at hl 0 rfl) ?_
          refine lv_aload_n hx hb dX1_mayBe_38 rfl (lv_at hl 1 rfl) ?_
          refine va_get (D := (dC, dI)) (ci := 1) (v := .ref gm) (C := RX1) (T := TX1) (N := 13) hx hb hts hin hown hK hP 0 rfl rfl 3 (by decide) (hts _ (List.mem_cons_of_mem _ tk_fl_16)) (fun _ h9 => h9) rfl dX1_mayBe_39 ?_
          refine lv_iload_n hx hb dX1_mayBe_42 rfl (lv_at hl 2 rfl) ?_
          refine va_iald hx hb hK hP 3 0 rfl rfl (vp_in_nI (by omega) (by decide)) dX1_mayBe_43 ?_
          refine kv_topi (y := nI (tM i)) (by rw [nI_clamp (by omega), (hTM i hi).1]) ?_
          refine lv_icmp_ge (tgt := 88) hx hb dX1_mayBe_44 (by decide) (fun c44 => ?_) (fun c44 => ?_)
          · refine lv_aload_n hx hb dX1_mayBe_88 rfl (lv_at hl 1 rfl) ?_
            refine lv_aload_n hx hb dX1_mayBe_89 rfl (lv_at hl 1 rfl) ?_
            refine va_get (D := (dC, dI)) (ci := 1) (v := .ref gr) (C := RX1) (T := TX1) (N := 13) hx hb hts hin hown hK hP 0 rfl rfl 2 (by decide) (hts _ (List.mem_cons_of_mem _ tk_fl_13)) (fun _ h9 => h9) rfl dX1_mayBe_90 ?_
            refine lv_iload_n hx hb dX1_mayBe_93 rfl (lv_at hl 2 rfl) ?_
            refine va_iald hx hb hK hP 2 0 rfl rfl (vp_in_nI (by omega) (by decide)) dX1_mayBe_94 ?_
            refine kv_topi (y := tr i) (by rw [nI_clamp (by omega)]) ?_
            refine lv_aload_n hx hb dX1_mayBe_95 rfl (lv_at hl 1 rfl) ?_
            refine va_get (D := (dC, dI)) (ci := 1) (v := .ref gr) (C := RX1) (T := TX1) (N := 13) hx hb hts hin hown hK hP 0 rfl rfl 2 (by decide) (hts _ (List.mem_cons_of_mem _ tk_fl_13)) (fun _ h9 => h9) rfl dX1_mayBe_96 ?_
            refine lv_iload_n hx hb dX1_mayBe_99 rfl (lv_at hl 3 rfl) ?_
            refine va_iald hx hb hK hP 2 0 rfl rfl (vp_in_nI (by omega) (by decide)) dX1_mayBe_100 ?_
            refine kv_topi (y := tr u) (by rw [nI_clamp (by omega)]) ?_
            refine lv_iload_n hx hb dX1_mayBe_101 rfl (lv_at hl 4 rfl) ?_
            refine lv_iconst (v := 1) hx hb dX1_mayBe_102 (by decide) ?_
            refine kc_R [.int (tr i), .int (tr u), .int (bI x3), .int 1] [] ⟨hx, hb, hml, hown, hts⟩ (cM_mayPass l dC dI g0 gp gr gm gl gw gn cI pv nc tr tm tp mt wv nw re nm np kk kn bl pr (tr i) (tr u) x3 true hPV hBL hnc ((hTP u hu).1)) (cwV 4 hts gZ_mayBe_mayPass rfl rfl rfl (by decide +kernel) ⟨(Nat.le_of_ble_eq_true rfl), (Nat.le_of_ble_eq_true rfl)⟩) hP hK (ci := 1) (q0 := 0) rfl rfl rfl rfl hl.1 rfl (Nat.le_of_ble_eq_true rfl) dX1_mayBe_103 ⟨Nat.zero_le _, Nat.zero_le _⟩ ?_
            exact W.zret hx hb hr (bI_nar (fM_mayPass bl (tr i) (tr u) x3 true)) (fun t ht hW => ⟨by rw [hfn, show tM i = k by omega, he, Bool.true_and] <;> rfl, ht⟩) (fun _ h => by cases h) dX1_mayBe_106
          · exact absurd (nI_le (by omega) (by omega)) c44
        | succ n ih =>
          intro k hk he ls hl
          refine lv_iload hx hb dX1_mayBe_36 (lv_at hl 0 rfl) ?_
          refine lv_aload_n hx hb dX1_mayBe_38 rfl (lv_at hl 1 rfl) ?_
          refine va_get (D := (dC, dI)) (ci := 1) (v := .ref gm) (C := RX1) (T := TX1) (N := 13) hx hb hts hin hown hK hP 0 rfl rfl 3 (by decide) (hts _ (List.mem_cons_of_mem _ tk_fl_16)) (fun _ h9 => h9) rfl dX1_mayBe_39 ?_
          refine lv_iload_n hx hb dX1_mayBe_42 rfl (lv_at hl 2 rfl) ?_
          refine va_iald hx hb hK hP 3 0 rfl rfl (vp_in_nI (by omega) (by decide)) dX1_mayBe_43 ?_
          refine kv_topi (y := nI (tM i)) (by rw [nI_clamp (by omega), (hTM i hi).1]) ?_
          refine lv_icmp_ge (tgt := 88) hx hb dX1_mayBe_44 (by decide) (fun c44 => ?_) (fun c44 => ?_)
          · exact absurd ((nI_leI (by omega) (by omega)).mp c44) (by omega)
          · refine lv_aload_n hx hb dX1_mayBe_47 rfl (lv_at hl 1 rfl) ?_
            refine lv_aload_n hx hb dX1_mayBe_48 rfl (lv_at hl 1 rfl) ?_
            refine va_get (D := (dC, dI)) (ci := 1) (v := .ref gl) (C := RX1) (T := TX1) (N := 13) hx hb hts hin hown hK hP 0 rfl rfl 4 (by decide) (hts _ (List.mem_cons_of_mem _ tk_fl_19)) (fun _ h9 => h9) rfl dX1_mayBe_49 ?_
            refine lv_bipush (v := 10) hx hb dX1_mayBe_52 (by decide) ?_
            refine lv_iload_n hx hb dX1_mayBe_54 rfl (lv_at hl 3 rfl) ?_
            refine lv_imul hx hb dX1_mayBe_55 ?_
            refine lv_iload hx hb dX1_mayBe_56 (lv_at hl 0 rfl) ?_
            refine lv_iadd hx hb dX1_mayBe_58 ?_
            refine kv_topi (y := nI (10 * u + k)) ix10 ?_
            refine va_iald hx hb hK hP 4 0 rfl rfl (vp_in_nI (by omega) (by decide)) dX1_mayBe_59 ?_
            refine kv_topi (y := tp (10 * u + k)) (by rw [nI_clamp (by omega)]) ?_
            refine lv_aload_n hx hb dX1_mayBe_60 rfl (lv_at hl 1 rfl) ?_
            refine va_get (D := (dC, dI)) (ci := 1) (v := .ref gl) (C := RX1) (T := TX1) (N := 13) hx hb hts hin hown hK hP 0 rfl rfl 4 (by decide) (hts _ (List.mem_cons_of_mem _ tk_fl_19)) (fun _ h9 => h9) rfl dX1_mayBe_61 ?_
            refine lv_bipush (v := 10) hx hb dX1_mayBe_64 (by decide) ?_
            refine lv_iload_n hx hb dX1_mayBe_66 rfl (lv_at hl 2 rfl) ?_
            refine lv_imul hx hb dX1_mayBe_67 ?_
            refine lv_iload hx hb dX1_mayBe_68 (lv_at hl 0 rfl) ?_
            refine lv_iadd hx hb dX1_mayBe_70 ?_
            refine kv_topi (y := nI (10 * i + k)) ix10 ?_
            refine va_iald hx hb hK hP 4 0 rfl rfl (vp_in_nI (by omega) (by decide)) dX1_mayBe_71 ?_
            refine kv_topi (y := tp (10 * i + k)) (by rw [nI_clamp (by omega)]) ?_
            refine lv_iload_n hx hb dX1_mayBe_72 rfl (lv_at hl 4 rfl) ?_
            refine lv_iconst (v := 0) hx hb dX1_mayBe_73 (by decide) ?_
            refine kc_R [.int (tp (10 * u + k)), .int (tp (10 * i + k)), .int (bI x3), .int 0] [] ⟨hx, hb, hml, hown, hts⟩ (cM_mayPass l dC dI g0 gp gr gm gl gw gn cI pv nc tr tm tp mt wv nw re nm np kk kn bl pr (tp (10 * u + k)) (tp (10 * i + k)) x3 false hPV hBL hnc ((hTP i hi).2 k (by omega))) (cwV 4 hts gZ_mayBe_mayPass rfl rfl rfl (by decide +kernel) ⟨(Nat.le_of_ble_eq_true rfl), (Nat.le_of_ble_eq_true rfl)⟩) hP hK (ci := 1) (q0 := 0) rfl rfl rfl rfl hl.1 rfl (Nat.le_of_ble_eq_true rfl) dX1_mayBe_74 ⟨Nat.zero_le _, Nat.zero_le _⟩ ?_
            refine lv_if_ne (tgt := 82) hx hb dX1_mayBe_77 (by decide) (fun c77 => ?_) (fun c77 => ?_)
            · refine lv_iinc (v := nI (k + 1)) (lv' := [(4, .int (nI (k + 1))), (0, .ref g0), (1, .int (nI i)), (2, .int (nI u)), (3, .int (bI x3))]) hx hb dX1_mayBe_82 hl (k := 0) rfl (nI_1 k) (by decide) rfl (fun ls hl => ?_)
              refine lv_goto (tgt := 36) hx hb dX1_mayBe_85 (by decide) ?_
              exact ih (k + 1) (by omega) (by rw [mall, he, bI_n0 c77] <;> rfl) ls (lv_sub hl [0, 1, 2, 3, 4] rfl)
            · refine lv_iconst (v := 0) hx hb dX1_mayBe_80 (by decide) ?_
              exact W.zret hx hb hr rfl (fun t ht hW => ⟨by rw [hfn, mall_no (k := k) (by omega) (bI_e0 c77), Bool.false_and] <;> rfl, ht⟩) (fun _ h => by cases h) dX1_mayBe_81
      · refine lv_iconst (v := 0) hx hb dX1_mayBe_31 (by decide) ?_
        exact W.zret hx hb hr rfl (fun t ht hW => ⟨by rw [fM_mayBe, if_neg c5, if_neg c13, nI_clamp (by omega), nI_clamp (by omega), (hTM i hi).1, (hTM u hu).1, if_neg c28] <;> rfl, ht⟩) (fun _ h => by cases h) dX1_mayBe_32
set_option maxHeartbeats 4000000 in
set_option maxRecDepth 100000 in
theorem cM_add (l : Launch) (dC : Nat → ClassId) (dI : Nat → Nat → Nat) (g0 gp gr gm gl gw gn : Nat) (cI : ClassId) (pv : Nat → Int32) (nc : Nat) (tr : Nat → Int32) (tm : Nat → Int32) (tp : Nat → Int32) (mt : Nat) (wv : Nat → Int32) (nw : Nat) (re : Int32) (nm : Nat) (np : Nat → Int32) (kk : Int32) (kn : Int64) (x1 : Int32) (hnm : nm < 32) : Met l yX1_add wsZ1_add ({ frames := 0, cells := 0, slots := 0, locals := 0 }) (kPw (dC, dI) vwCl [(cI, .int)] (mW g0 gp gr gm gl gw gn cI pv nc tr tm tp mt wv nw re nm np kk kn) [.ref g0, .int x1]) (kQw (dC, dI) vwCl none (mW g0 gp gr gm gl gw gn cI pv nc tr tm tp mt wv nw re (nm + 1) (upd np nm x1) kk kn) [g0, gp, gr, gm, gl, gw, gn]) 0 0 (fun q => q ∈ [g0, gp, gr, gm, gl, gw, gn]) := by
  refine Met.ofW (cc := cX1_add) (maxL := 2) (ret := none) (by decide) rfl ?_
  intro p e s m args below meth c s₁ B hml hv
  obtain ⟨rfl, hP, hK, hD0⟩ := hv
  have hx := B.exec
  have hb := B.bytes
  have hr := B.returns
  have hts := atoms_spec (ws := wsZ1_add) B.pre
  have hown : s.vm.findClass RX1 = some m.cls := findClass_of_methodNamed B.named
  have hlocks := B.notSynchronized
  have hin : ∀ w ∈ u_ws RX1 TX1 13, w ∈ wsZ1_add := fun w h => List.mem_cons_of_mem _ (inZ1 w h)
  have hD : va_D (fun q => q ∈ [g0, gp, gr, gm, gl, gw, gn]) (mW g0 gp gr gm gl gw gn cI pv nc tr tm tp mt wv nw re nm np kk kn) := kD_self hD0 rfl
  have hS : va_S (fun q => q ∈ [g0, gp, gr, gm, gl, gw, gn]) s.heap s.heap [] := va_S.rf
  have hl := lv_entry ([.ref g0, .int x1]) (n := 2) (Nat.le_of_ble_eq_true rfl)
  rw [lg_entry_eq]
  generalize (lg_sl ([.ref g0, .int x1]) ++ List.replicate (2 - (lg_sl ([.ref g0, .int x1])).length) Slot.unset).toArray = ls at hl ⊢
  have hl : lv_has ls 2 [(0, .ref g0), (1, .int x1)] := hl
  refine lv_aload_n hx hb dX1_add_0 rfl (lv_at hl 0 rfl) ?_
  refine va_get (D := (dC, dI)) (ci := 1) (v := .ref gn) (C := RX1) (T := TX1) (N := 13) hx hb hts hin hown hK hP 0 rfl rfl 10 (by decide) (hts _ (List.mem_cons_of_mem _ tk_fl_25)) (fun _ h9 => h9) rfl dX1_add_1 ?_
  refine lv_aload_n hx hb dX1_add_4 rfl (lv_at hl 0 rfl) ?_
  refine va_get (D := (dC, dI)) (ci := 1) (v := .int (nI nm)) (C := RX1) (T := TX1) (N := 13) hx hb hts hin hown hK hP 0 rfl rfl 9 (by decide) (hts _ (List.mem_cons_of_mem _ tk_fl_54)) (fun _ h9 => h9) rfl dX1_add_5 ?_
  refine lv_iload_n hx hb dX1_add_8 rfl (lv_at hl 1 rfl) ?_
  refine va_iast hx hb hK hP hD hS 6 0 rfl rfl (vp_in_nI hnm (by decide)) dX1_add_9 (fun H locs hP hD hS => ?_)
  have e_as : upd np (nI nm).toNatClampNeg x1 = upd np nm x1 := by rw [nI_clamp (by omega)]
  have hP : va_P (dC, dI) vwCl (mW g0 gp gr gm gl gw gn cI pv nc tr tm tp mt wv nw re nm (upd np nm x1) kk kn) H := by rw [← e_as]; exact hP
  have hD : va_D (fun q => q ∈ [g0, gp, gr, gm, gl, gw, gn]) (mW g0 gp gr gm gl gw gn cI pv nc tr tm tp mt wv nw re nm (upd np nm x1) kk kn) := by rw [← e_as]; exact hD
  refine lv_aload_n hx hb dX1_add_10 rfl (lv_at hl 0 rfl) ?_
  refine lv_dup hx hb dX1_add_11 rfl ?_
  refine va_get (D := (dC, dI)) (ci := 1) (v := .int (nI nm)) (C := RX1) (T := TX1) (N := 13) hx hb hts hin hown hK hP 0 rfl rfl 9 (by decide) (hts _ (List.mem_cons_of_mem _ tk_fl_54)) (fun _ h9 => h9) rfl dX1_add_12 ?_
  refine lv_iconst (v := 1) hx hb dX1_add_15 (by decide) ?_
  refine lv_iadd hx hb dX1_add_16 ?_
  refine kv_topi (y := nI (nm + 1)) (nI_1 nm) ?_
  refine va_put (D := (dC, dI)) (ci := 1) (v := .int (nI (nm + 1))) (ty := .int) (C := RX1) (T := TX1) (N := 13) hx hb hts hin tyX1 tyX1_ok nmX1 hown hK hP hD hS 0 rfl rfl 9 (by decide) (hts _ (List.mem_cons_of_mem _ tk_fl_54)) (fun _ h9 => h9) rfl (by decide +kernel) rfl rfl (Nat.le_of_ble_eq_true rfl) dX1_add_17 (fun H locs hP hD hS => ?_)
  have hP : va_P (dC, dI) vwCl (mW g0 gp gr gm gl gw gn cI pv nc tr tm tp mt wv nw re (nm + 1) (upd np nm x1) kk kn) H := hP
  have hD : va_D _ (mW g0 gp gr gm gl gw gn cI pv nc tr tm tp mt wv nw re (nm + 1) (upd np nm x1) kk kn) := hD
  exact W.vret hx hb hr (fun t ht hW => ⟨rfl, by rw [ht]; exact hP, hS.F ht⟩) hS.2.2 dX1_add_20
end
section
set_option maxHeartbeats 4000000 in
set_option maxRecDepth 100000 in
theorem cM_type (l : Launch) (dC : Nat → ClassId) (dI : Nat → Nat → Nat) (g0 gp gr gm gl gw gn : Nat) (cI : ClassId) (pv : Nat → Int32) (nc : Nat) (tr : Nat → Int32) (tm : Nat → Int32) (tp : Nat → Int32) (mt : Nat) (wv : Nat → Int32) (nw : Nat) (re : Int32) (nm : Nat) (np : Nat → Int32) (kk : Int32) (kn : Int64) (x1 : Int32) (hmt : mt ≤ 300) (hnw : nw ≤ 20) : Met l yX1_type wsZ1_type ({ frames := 2, cells := 0, slots := 0, locals := 47 }) (kPw (dC, dI) vwCl [(cI, .int)] (mW g0 gp gr gm gl gw gn cI pv nc tr tm tp mt wv nw re nm np kk kn) [.ref g0, .int x1]) (kQw (dC, dI) vwCl (some (.int (if fM_typeOK nc wv nw x1 = true then (if nw ≤ 10 then nbR (fnd (fQ tr tm tp (npC np wv nw) x1 nw) mt 0) mt else (-1 : Int32)) else (-1 : Int32)))) (mW g0 gp gr gm gl gw gn cI pv nc (if fM_typeOK nc wv nw x1 = true then (if nw ≤ 10 then nbV (fnd (fQ tr tm tp (npC np wv nw) x1 nw) mt 0) mt tr (upd tr mt x1) else tr) else tr) (if fM_typeOK nc wv nw x1 = true then (if nw ≤ 10 then nbV (fnd (fQ tr tm tp (npC np wv nw) x1 nw) mt 0) mt tm (upd tm mt (nI nw)) else tm) else tm) (if fM_typeOK nc wv nw x1 = true then (if nw ≤ 10 then nbV (fnd (fQ tr tm tp (npC np wv nw) x1 nw) mt 0) mt tp (tpC tp (npC np wv nw) mt nw) else tp) else tp) (if fM_typeOK nc wv nw x1 = true then (if nw ≤ 10 then nbN (fnd (fQ tr tm tp (npC np wv nw) x1 nw) mt 0) mt else mt) else mt) wv 0 (if fM_typeOK nc wv nw x1 = true then x1 else re) (if fM_typeOK nc wv nw x1 = true then nw else nm) (if fM_typeOK nc wv nw x1 = true then (npC np wv nw) else np) kk kn) [g0, gp, gr, gm, gl, gw, gn]) 0 0 (fun q => q ∈ [g0, gp, gr, gm, gl, gw, gn]) := by
  refine Met.ofW (cc := cX1_type) (maxL := 5) (ret := (some .int)) (by decide) rfl ?_
  intro p e s m args below meth c s₁ B hml hv
  obtain ⟨rfl, hP, hK, hD0⟩ := hv
  have hx := B.exec
  have hb := B.bytes
  have hr := B.returns
  have hts := atoms_spec (ws := wsZ1_type) B.pre
  have hown : s.vm.findClass RX1 = some m.cls := findClass_of_methodNamed B.named
  have hlocks := B.notSynchronized
  have hin : ∀ w ∈ u_ws RX1 TX1 13, w ∈ wsZ1_type := fun w h => List.mem_cons_of_mem _ (inZ1 w h)
  have hD : va_D (fun q => q ∈ [g0, gp, gr, gm, gl, gw, gn]) (mW g0 gp gr gm gl gw gn cI pv nc tr tm tp mt wv nw re nm np kk kn) := kD_self hD0 rfl
  have hS : va_S (fun q => q ∈ [g0, gp, gr, gm, gl, gw, gn]) s.heap s.heap [] := va_S.rf
  have hl := lv_entry ([.ref g0, .int x1]) (n := 5) (Nat.le_of_ble_eq_true rfl)
  rw [lg_entry_eq]
  generalize (lg_sl ([.ref g0, .int x1]) ++ List.replicate (5 - (lg_sl ([.ref g0, .int x1])).length) Slot.unset).toArray = ls at hl ⊢
  have hl : lv_has ls 5 [(0, .ref g0), (1, .int x1)] := hl
  refine lv_aload_n hx hb dX1_type_0 rfl (lv_at hl 0 rfl) ?_
  refine va_get (D := (dC, dI)) (ci := 1) (v := .int (nI nw)) (C := RX1) (T := TX1) (N := 13) hx hb hts hin hown hK hP 0 rfl rfl 7 (by decide) (hts _ (List.mem_cons_of_mem _ tk_fl_96)) (fun _ h9 => h9) rfl dX1_type_1 ?_
  refine lv_istore_n (lv' := [(2, .int (nI nw)), (0, .ref g0), (1, .int x1)]) hx hb dX1_type_4 rfl hl (by decide) rfl (fun ls hl => ?_)
  refine lv_aload_n hx hb dX1_type_5 rfl (lv_at hl 1 rfl) ?_
  refine lv_iconst (v := 0) hx hb dX1_type_6 (by decide) ?_
  refine kv_topi (y := nI 0) rfl ?_
  refine va_put (D := (dC, dI)) (ci := 1) (v := .int (nI 0)) (ty := .int) (C := RX1) (T := TX1) (N := 13) hx hb hts hin tyX1 tyX1_ok nmX1 hown hK hP hD hS 0 rfl rfl 7 (by decide) (hts _ (List.mem_cons_of_mem _ tk_fl_96)) (fun _ h9 => h9) rfl (by decide +kernel) rfl rfl (Nat.le_of_ble_eq_true rfl) dX1_type_7 (fun H locs hP hD hS => ?_)
  have hP : va_P (dC, dI) vwCl (mW g0 gp gr gm gl gw gn cI pv nc tr tm tp mt wv 0 re nm np kk kn) H := hP
  have hD : va_D _ (mW g0 gp gr gm gl gw gn cI pv nc tr tm tp mt wv 0 re nm np kk kn) := hD
  refine lv_aload_n hx hb dX1_type_10 rfl (lv_at hl 1 rfl) ?_
  refine lv_iload_n hx hb dX1_type_11 rfl (lv_at hl 2 rfl) ?_
  refine kc_R [.int x1] [] ⟨hx, hb, hml, hown, hts⟩ (cM_isKind l dC dI g0 gp gr gm gl gw gn cI pv nc tr tm tp mt wv 0 re nm np kk kn x1) (cwV 1 hts gZ_type_isKind rfl rfl rfl (by decide +kernel) ⟨(Nat.le_of_ble_eq_true rfl), (Nat.le_of_ble_eq_true rfl)⟩) hP hK (ci := 1) (q0 := 0) rfl rfl rfl rfl hl.1 rfl (Nat.le_of_ble_eq_true rfl) dX1_type_12 ⟨Nat.zero_le _, Nat.zero_le _⟩ ?_
  refine lv_if_eq (tgt := 28) hx hb dX1_type_15 (by decide) (fun c15 => ?_) (fun c15 => ?_)
  · refine lv_iconst (v := 0) hx hb dX1_type_28 (by decide) ?_
    refine lv_istore_n (lv' := [(3, .int 0), (2, .int (nI nw)), (0, .ref g0), (1, .int x1)]) hx hb dX1_type_29 rfl hl (by decide) rfl (fun ls hl => ?_)
    refine lv_iconst (v := 0) hx hb dX1_type_30 (by decide) ?_
    refine lv_istore (lv' := [(4, .int 0), (3, .int 0), (2, .int (nI nw)), (0, .ref g0), (1, .int x1)]) hx hb dX1_type_31 hl (by decide) rfl (fun ls hl => ?_)
    refine lv_iload hx hb dX1_type_33 (lv_at hl 0 rfl) ?_
    refine lv_iload_n hx hb dX1_type_35 rfl (lv_at hl 2 rfl) ?_
    refine lv_icmp_ge (tgt := 79) hx hb dX1_type_36 (by decide) (fun c36 => ?_) (fun c36 => ?_)
    · refine lv_iload_n hx hb dX1_type_79 rfl (lv_at hl 1 rfl) ?_
      refine lv_if_ne (tgt := 85) hx hb dX1_type_80 (by decide) (fun c80 => ?_) (fun c80 => ?_)
      · exact absurd rfl c80
      · refine lv_iconst (v := -1) hx hb dX1_type_83 (by decide) ?_
        exact W.iret hx hb hr (fun t ht hW => ⟨by rw [if_neg (show ¬ fM_typeOK nc wv nw x1 = true from (by rw [mtyOK_k c15]; decide))] <;> rfl, by rw [ht]; simp only [if_neg (show ¬ fM_typeOK nc wv nw x1 = true from (by rw [mtyOK_k c15]; decide))]; exact hP, hS.F ht⟩) hS.2.2 dX1_type_84
    · refine lv_iload_n hx hb dX1_type_39 rfl (lv_at hl 1 rfl) ?_
      refine lv_if_eq (tgt := 79) hx hb dX1_type_40 (by decide) (fun c40 => ?_) (fun c40 => ?_)
      · refine lv_iload_n hx hb dX1_type_79 rfl (lv_at hl 1 rfl) ?_
        refine lv_if_ne (tgt := 85) hx hb dX1_type_80 (by decide) (fun c80 => ?_) (fun c80 => ?_)
        · exact absurd rfl c80
        · refine lv_iconst (v := -1) hx hb dX1_type_83 (by decide) ?_
          exact W.iret hx hb hr (fun t ht hW => ⟨by rw [if_neg (show ¬ fM_typeOK nc wv nw x1 = true from (by rw [mtyOK_k c15]; decide))] <;> rfl, by rw [ht]; simp only [if_neg (show ¬ fM_typeOK nc wv nw x1 = true from (by rw [mtyOK_k c15]; decide))]; exact hP, hS.F ht⟩) hS.2.2 dX1_type_84
      · exact absurd rfl c40
  · refine lv_iload_n hx hb dX1_type_18 rfl (lv_at hl 0 rfl) ?_
    refine lv_bipush (v := 10) hx hb dX1_type_19 (by decide) ?_
    refine lv_icmp_gt (tgt := 28) hx hb dX1_type_21 (by decide) (fun c21 => ?_) (fun c21 => ?_)
    · refine lv_iconst (v := 0) hx hb dX1_type_28 (by decide) ?_
      refine lv_istore_n (lv' := [(3, .int 0), (2, .int (nI nw)), (0, .ref g0), (1, .int x1)]) hx hb dX1_type_29 rfl hl (by decide) rfl (fun ls hl => ?_)
      refine lv_iconst (v := 0) hx hb dX1_type_30 (by decide) ?_
      refine lv_istore (lv' := [(4, .int 0), (3, .int 0), (2, .int (nI nw)), (0, .ref g0), (1, .int x1)]) hx hb dX1_type_31 hl (by decide) rfl (fun ls hl => ?_)
      refine lv_iload hx hb dX1_type_33 (lv_at hl 0 rfl) ?_
      refine lv_iload_n hx hb dX1_type_35 rfl (lv_at hl 2 rfl) ?_
      refine lv_icmp_ge (tgt := 79) hx hb dX1_type_36 (by decide) (fun c36 => ?_) (fun c36 => ?_)
      · refine lv_iload_n hx hb dX1_type_79 rfl (lv_at hl 1 rfl) ?_
        refine lv_if_ne (tgt := 85) hx hb dX1_type_80 (by decide) (fun c80 => ?_) (fun c80 => ?_)
        · exact absurd rfl c80
        · refine lv_iconst (v := -1) hx hb dX1_type_83 (by decide) ?_
          exact W.iret hx hb hr (fun t ht hW => ⟨by rw [if_neg (show ¬ fM_typeOK nc wv nw x1 = true from (by rw [mtyOK_n hnw c21]; decide))] <;> rfl, by rw [ht]; simp only [if_neg (show ¬ fM_typeOK nc wv nw x1 = true from (by rw [mtyOK_n hnw c21]; decide))]; exact hP, hS.F ht⟩) hS.2.2 dX1_type_84
      · refine lv_iload_n hx hb dX1_type_39 rfl (lv_at hl 1 rfl) ?_
        refine lv_if_eq (tgt := 79) hx hb dX1_type_40 (by decide) (fun c40 => ?_) (fun c40 => ?_)
        · refine lv_iload_n hx hb dX1_type_79 rfl (lv_at hl 1 rfl) ?_
          refine lv_if_ne (tgt := 85) hx hb dX1_type_80 (by decide) (fun c80 => ?_) (fun c80 => ?_)
          · exact absurd rfl c80
          · refine lv_iconst (v := -1) hx hb dX1_type_83 (by decide) ?_
            exact W.iret hx hb hr (fun t ht hW => ⟨by rw [if_neg (show ¬ fM_typeOK nc wv nw x1 = true from (by rw [mtyOK_n hnw c21]; decide))] <;> rfl, by rw [ht]; simp only [if_neg (show ¬ fM_typeOK nc wv nw x1 = true from (by rw [mtyOK_n hnw c21]; decide))]; exact hP, hS.F ht⟩) hS.2.2 dX1_type_84
        · exact absurd rfl c40
    · refine lv_iconst (v := 1) hx hb dX1_type_24 (by decide) ?_
      refine lv_goto (tgt := 29) hx hb dX1_type_25 (by decide) ?_
      refine lv_istore_n (lv' := [(3, .int 1), (2, .int (nI nw)), (0, .ref g0), (1, .int x1)]) hx hb dX1_type_29 rfl hl (by decide) rfl (fun ls hl => ?_)
      refine lv_iconst (v := 0) hx hb dX1_type_30 (by decide) ?_
      refine lv_istore (lv' := [(4, .int 0), (3, .int 1), (2, .int (nI nw)), (0, .ref g0), (1, .int x1)]) hx hb dX1_type_31 hl (by decide) rfl (fun ls hl => ?_)
      suffices iloop : ∀ (n2 k : Nat) (b : Bool), k + n2 = nw → b = mall (fun k => fM_isKind nc (wv k) && !decide (wv k = 0)) k → ∀ (ls : Array Slot), lv_has ls 5 [(4, .int (nI k)), (3, .int (bI b)), (2, .int (nI nw)), (0, .ref g0), (1, .int x1)] → W p l e (headSpec wsZ1_type ({ frames := 2, cells := 0, slots := 0, locals := 47 })).room s m ([.ref g0, .int x1] : List Value).toArray below meth c H locs 0 0 (MQ below (kQw (dC, dI) vwCl (some (.int (if fM_typeOK nc wv nw x1 = true then (if nw ≤ 10 then nbR (fnd (fQ tr tm tp (npC np wv nw) x1 nw) mt 0) mt else (-1 : Int32)) else (-1 : Int32)))) (mW g0 gp gr gm gl gw gn cI pv nc (if fM_typeOK nc wv nw x1 = true then (if nw ≤ 10 then nbV (fnd (fQ tr tm tp (npC np wv nw) x1 nw) mt 0) mt tr (upd tr mt x1) else tr) else tr) (if fM_typeOK nc wv nw x1 = true then (if nw ≤ 10 then nbV (fnd (fQ tr tm tp (npC np wv nw) x1 nw) mt 0) mt tm (upd tm mt (nI nw)) else tm) else tm) (if fM_typeOK nc wv nw x1 = true then (if nw ≤ 10 then nbV (fnd (fQ tr tm tp (npC np wv nw) x1 nw) mt 0) mt tp (tpC tp (npC np wv nw) mt nw) else tp) else tp) (if fM_typeOK nc wv nw x1 = true then (if nw ≤ 10 then nbN (fnd (fQ tr tm tp (npC np wv nw) x1 nw) mt 0) mt else mt) else mt) wv 0 (if fM_typeOK nc wv nw x1 = true then x1 else re) (if fM_typeOK nc wv nw x1 = true then nw else nm) (if fM_typeOK nc wv nw x1 = true then (npC np wv nw) else np) kk kn) [g0, gp, gr, gm, gl, gw, gn]) ([.ref g0, .int x1] : List Value).toArray s 0 0 (fun q => q ∈ [g0, gp, gr, gm, gl, gw, gn])) (F0 m 33 ls []) by
        exact iloop nw 0 true (by omega) rfl ls (lv_sub hl [0, 1, 2, 3, 4] rfl)
      intro n2
      induction n2 with
      | zero =>
        intro k b hd hfb ls hl
        obtain rfl : nw = k := by omega
        refine lv_iload hx hb dX1_type_33 (lv_at hl 0 rfl) ?_
        refine lv_iload_n hx hb dX1_type_35 rfl (lv_at hl 2 rfl) ?_
        refine lv_icmp_ge (tgt := 79) hx hb dX1_type_36 (by decide) (fun c36 => ?_) (fun c36 => ?_)
        · refine lv_iload_n hx hb dX1_type_79 rfl (lv_at hl 1 rfl) ?_
          refine lv_if_ne (tgt := 85) hx hb dX1_type_80 (by decide) (fun c80 => ?_) (fun c80 => ?_)
          · have hok : fM_typeOK nc wv nw x1 = true := mtyOK_yes c15 c21 hnw (by rw [← hfb, bI_n0 c80])
            refine lv_aload_n hx hb dX1_type_85 rfl (lv_at hl 3 rfl) ?_
            refine lv_iload_n hx hb dX1_type_86 rfl (lv_at hl 4 rfl) ?_
            refine va_put (D := (dC, dI)) (ci := 1) (v := .int x1) (ty := .int) (C := RX1) (T := TX1) (N := 13) hx hb hts hin tyX1 tyX1_ok nmX1 hown hK hP hD hS 0 rfl rfl 8 (by decide) (hts _ (List.mem_cons_of_mem _ tk_fl_57)) (fun _ h9 => h9) rfl (by decide +kernel) rfl rfl (Nat.le_of_ble_eq_true rfl) dX1_type_87 (fun H locs hP hD hS => ?_)
            have hP : va_P (dC, dI) vwCl (mW g0 gp gr gm gl gw gn cI pv nc tr tm tp mt wv 0 x1 nm np kk kn) H := hP
            have hD : va_D _ (mW g0 gp gr gm gl gw gn cI pv nc tr tm tp mt wv 0 x1 nm np kk kn) := hD
            refine lv_aload_n hx hb dX1_type_90 rfl (lv_at hl 3 rfl) ?_
            refine lv_iload_n hx hb dX1_type_91 rfl (lv_at hl 2 rfl) ?_
            refine va_put (D := (dC, dI)) (ci := 1) (v := .int (nI nw)) (ty := .int) (C := RX1) (T := TX1) (N := 13) hx hb hts hin tyX1 tyX1_ok nmX1 hown hK hP hD hS 0 rfl rfl 9 (by decide) (hts _ (List.mem_cons_of_mem _ tk_fl_54)) (fun _ h9 => h9) rfl (by decide +kernel) rfl rfl (Nat.le_of_ble_eq_true rfl) dX1_type_92 (fun H locs hP hD hS => ?_)
            have hP : va_P (dC, dI) vwCl (mW g0 gp gr gm gl gw gn cI pv nc tr tm tp mt wv 0 x1 nw np kk kn) H := hP
            have hD : va_D _ (mW g0 gp gr gm gl gw gn cI pv nc tr tm tp mt wv 0 x1 nw np kk kn) := hD
            refine lv_iconst (v := 0) hx hb dX1_type_95 (by decide) ?_
            refine lv_istore (lv' := [(4, .int 0), (3, .int (bI b)), (2, .int (nI nw)), (0, .ref g0), (1, .int x1)]) hx hb dX1_type_96 hl (by decide) rfl (fun ls hl => ?_)
            suffices loop : ∀ (n k : Nat), k + n = nw → ∀ (H : Heap) (locs : List Loc), va_P (dC, dI) vwCl (mW g0 gp gr gm gl gw gn cI pv nc tr tm tp mt wv 0 x1 nw (npC np wv k) kk kn) H → va_D (fun q => q ∈ [g0, gp, gr, gm, gl, gw, gn]) (mW g0 gp gr gm gl gw gn cI pv nc tr tm tp mt wv 0 x1 nw (npC np wv k) kk kn) → va_S (fun q => q ∈ [g0, gp, gr, gm, gl, gw, gn]) s.heap H locs → ∀ (ls : Array Slot), lv_has ls 5 [(4, .int (nI k)), (3, .int (bI b)), (2, .int (nI nw)), (0, .ref g0), (1, .int x1)] → W p l e (headSpec wsZ1_type ({ frames := 2, cells := 0, slots := 0, locals := 47 })).room s m ([.ref g0, .int x1] : List Value).toArray below meth c H locs 0 0 (MQ below (kQw (dC, dI) vwCl (some (.int (if fM_typeOK nc wv nw x1 = true then (if nw ≤ 10 then nbR (fnd (fQ tr tm tp (npC np wv nw) x1 nw) mt 0) mt else (-1 : Int32)) else (-1 : Int32)))) (mW g0 gp gr gm gl gw gn cI pv nc (if fM_typeOK nc wv nw x1 = true then (if nw ≤ 10 then nbV (fnd (fQ tr tm tp (npC np wv nw) x1 nw) mt 0) mt tr (upd tr mt x1) else tr) else tr) (if fM_typeOK nc wv nw x1 = true then (if nw ≤ 10 then nbV (fnd (fQ tr tm tp (npC np wv nw) x1 nw) mt 0) mt tm (upd tm mt (nI nw)) else tm) else tm) (if fM_typeOK nc wv nw x1 = true then (if nw ≤ 10 then nbV (fnd (fQ tr tm tp (npC np wv nw) x1 nw) mt 0) mt tp (tpC tp (npC np wv nw) mt nw) else tp) else tp) (if fM_typeOK nc wv nw x1 = true then (if nw ≤ 10 then nbN (fnd (fQ tr tm tp (npC np wv nw) x1 nw) mt 0) mt else mt) else mt) wv 0 (if fM_typeOK nc wv nw x1 = true then x1 else re) (if fM_typeOK nc wv nw x1 = true then nw else nm) (if fM_typeOK nc wv nw x1 = true then (npC np wv nw) else np) kk kn) [g0, gp, gr, gm, gl, gw, gn]) ([.ref g0, .int x1] : List Value).toArray s 0 0 (fun q => q ∈ [g0, gp, gr, gm, gl, gw, gn])) (F0 m 98 ls []) by
              exact loop nw 0 (by omega) H locs (by rw [npC_0]; exact hP) (by rw [npC_0]; exact hD) hS ls (lv_sub hl [0, 1, 2, 3, 4] rfl)
            intro n
            induction n with
            | zero =>
              intro k hk H locs hP hD hS ls hl
              obtain rfl : nw = k := by omega
              refine lv_iload hx hb dX1_type_98 (lv_at hl 0 rfl) ?_
              refine lv_iload_n hx hb dX1_type_100 rfl (lv_at hl 2 rfl) ?_
              refine lv_icmp_ge (tgt := 124) hx hb dX1_type_101 (by decide) (fun c101 => ?_) (fun c101 => ?_)
              · refine lv_aload_n hx hb dX1_type_124 rfl (lv_at hl 3 rfl) ?_
                refine kc_W [] [] ⟨hx, hb, hml, hown, hts⟩ (cM_madeType l dC dI g0 gp gr gm gl gw gn cI pv nc tr tm tp mt wv 0 x1 nw (npC np wv nw) kk kn hmt (by omega)) (cwV 0 hts gZ_type_madeType rfl rfl rfl (by decide +kernel) ⟨(Nat.le_of_ble_eq_true rfl), (Nat.le_of_ble_eq_true rfl)⟩) hP hK hD hS rfl (ci := 1) (q0 := 0) rfl rfl rfl rfl hl.1 rfl (Nat.le_of_ble_eq_true rfl) dX1_type_125 ⟨Nat.zero_le _, Nat.zero_le _⟩ (fun H locs hP1 hS hk1 => ?_)
                have hP : va_P (dC, dI) vwCl (mW g0 gp gr gm gl gw gn cI pv nc (if nw ≤ 10 then nbV (fnd (fQ tr tm tp (npC np wv nw) x1 nw) mt 0) mt tr (upd tr mt x1) else tr) (if nw ≤ 10 then nbV (fnd (fQ tr tm tp (npC np wv nw) x1 nw) mt 0) mt tm (upd tm mt (nI nw)) else tm) (if nw ≤ 10 then nbV (fnd (fQ tr tm tp (npC np wv nw) x1 nw) mt 0) mt tp (tpC tp (npC np wv nw) mt nw) else tp) (if nw ≤ 10 then nbN (fnd (fQ tr tm tp (npC np wv nw) x1 nw) mt 0) mt else mt) wv 0 x1 nw (npC np wv nw) kk kn) H := hP1
                have hD : va_D _ (mW g0 gp gr gm gl gw gn cI pv nc (if nw ≤ 10 then nbV (fnd (fQ tr tm tp (npC np wv nw) x1 nw) mt 0) mt tr (upd tr mt x1) else tr) (if nw ≤ 10 then nbV (fnd (fQ tr tm tp (npC np wv nw) x1 nw) mt 0) mt tm (upd tm mt (nI nw)) else tm) (if nw ≤ 10 then nbV (fnd (fQ tr tm tp (npC np wv nw) x1 nw) mt 0) mt tp (tpC tp (npC np wv nw) mt nw) else tp) (if nw ≤ 10 then nbN (fnd (fQ tr tm tp (npC np wv nw) x1 nw) mt 0) mt else mt) wv 0 x1 nw (npC np wv nw) kk kn) := kD_same hD rfl
                exact W.iret hx hb hr (fun t ht hW => ⟨by rw [if_pos hok] <;> rfl, by rw [ht]; simp only [if_pos hok]; exact hP, hS.F ht⟩) hS.2.2 dX1_type_128
              · exact absurd (nI_le (by omega) (by omega)) c101
            | succ n ih =>
              intro k hk H locs hP hD hS ls hl
              refine lv_iload hx hb dX1_type_98 (lv_at hl 0 rfl) ?_
              refine lv_iload_n hx hb dX1_type_100 rfl (lv_at hl 2 rfl) ?_
              refine lv_icmp_ge (tgt := 124) hx hb dX1_type_101 (by decide) (fun c101 => ?_) (fun c101 => ?_)
              · exact absurd ((nI_leI (by omega) (by omega)).mp c101) (by omega)
              · refine lv_aload_n hx hb dX1_type_104 rfl (lv_at hl 3 rfl) ?_
                refine va_get (D := (dC, dI)) (ci := 1) (v := .ref gn) (C := RX1) (T := TX1) (N := 13) hx hb hts hin hown hK hP 0 rfl rfl 10 (by decide) (hts _ (List.mem_cons_of_mem _ tk_fl_25)) (fun _ h9 => h9) rfl dX1_type_105 ?_
                refine lv_iload hx hb dX1_type_108 (lv_at hl 0 rfl) ?_
                refine lv_aload_n hx hb dX1_type_110 rfl (lv_at hl 3 rfl) ?_
                refine va_get (D := (dC, dI)) (ci := 1) (v := .ref gw) (C := RX1) (T := TX1) (N := 13) hx hb hts hin hown hK hP 0 rfl rfl 6 (by decide) (hts _ (List.mem_cons_of_mem _ tk_fl_22)) (fun _ h9 => h9) rfl dX1_type_111 ?_
                refine lv_iload hx hb dX1_type_114 (lv_at hl 0 rfl) ?_
                refine va_iald hx hb hK hP 5 0 rfl rfl (vp_in_nI (by omega) (by decide)) dX1_type_116 ?_
                refine kv_topi (y := wv k) (by rw [nI_clamp (by omega)]) ?_
                refine va_iast hx hb hK hP hD hS 6 0 rfl rfl (vp_in_nI (by omega) (by decide)) dX1_type_117 (fun H locs hP hD hS => ?_)
                have e_as : upd (npC np wv k) (nI k).toNatClampNeg (wv k) = npC np wv (k + 1) := npC_s (by omega)
                have hP : va_P (dC, dI) vwCl (mW g0 gp gr gm gl gw gn cI pv nc tr tm tp mt wv 0 x1 nw (npC np wv (k + 1)) kk kn) H := by rw [← e_as]; exact hP
                have hD : va_D (fun q => q ∈ [g0, gp, gr, gm, gl, gw, gn]) (mW g0 gp gr gm gl gw gn cI pv nc tr tm tp mt wv 0 x1 nw (npC np wv (k + 1)) kk kn) := by rw [← e_as]; exact hD
                refine lv_iinc (v := nI (k + 1)) (lv' := [(4, .int (nI (k + 1))), (3, .int (bI b)), (2, .int (nI nw)), (0, .ref g0), (1, .int x1)]) hx hb dX1_type_118 hl (k := 0) rfl (nI_1 k) (by decide) rfl (fun ls hl => ?_)
                refine lv_goto (tgt := 98) hx hb dX1_type_121 (by decide) ?_
                exact ih (k + 1) (by omega) _ _ hP hD hS ls (lv_sub hl [0, 1, 2, 3, 4] rfl)
          · refine lv_iconst (v := -1) hx hb dX1_type_83 (by decide) ?_
            exact W.iret hx hb hr (fun t ht hW => ⟨by rw [if_neg (show ¬ fM_typeOK nc wv nw x1 = true from (by rw [mtyOK_no (by rw [← hfb, bI_e0 c80])]; decide))] <;> rfl, by rw [ht]; simp only [if_neg (show ¬ fM_typeOK nc wv nw x1 = true from (by rw [mtyOK_no (by rw [← hfb, bI_e0 c80])]; decide))]; exact hP, hS.F ht⟩) hS.2.2 dX1_type_84
        · exact absurd (nI_le (Nat.le_refl _) (by omega)) c36
      | succ n2 ih =>
        intro k b hd hfb ls hl
        refine lv_iload hx hb dX1_type_33 (lv_at hl 0 rfl) ?_
        refine lv_iload_n hx hb dX1_type_35 rfl (lv_at hl 2 rfl) ?_
        refine lv_icmp_ge (tgt := 79) hx hb dX1_type_36 (by decide) (fun c36 => ?_) (fun c36 => ?_)
        · exact absurd ((nI_leI (by omega) (by omega)).mp c36) (by omega)
        · refine lv_iload_n hx hb dX1_type_39 rfl (lv_at hl 1 rfl) ?_
          refine lv_if_eq (tgt := 79) hx hb dX1_type_40 (by decide) (fun c40 => ?_) (fun c40 => ?_)
          · refine lv_iload_n hx hb dX1_type_79 rfl (lv_at hl 1 rfl) ?_
            refine lv_if_ne (tgt := 85) hx hb dX1_type_80 (by decide) (fun c80 => ?_) (fun c80 => ?_)
            · exact absurd c40 c80
            · refine lv_iconst (v := -1) hx hb dX1_type_83 (by decide) ?_
              exact W.iret hx hb hr (fun t ht hW => ⟨by rw [if_neg (show ¬ fM_typeOK nc wv nw x1 = true from (by rw [mtyOK_no (mall_mono (d := k) (by omega) (by rw [← hfb, bI_e0 c40]))]; decide))] <;> rfl, by rw [ht]; simp only [if_neg (show ¬ fM_typeOK nc wv nw x1 = true from (by rw [mtyOK_no (mall_mono (d := k) (by omega) (by rw [← hfb, bI_e0 c40]))]; decide))]; exact hP, hS.F ht⟩) hS.2.2 dX1_type_84
          · refine lv_aload_n hx hb dX1_type_43 rfl (lv_at hl 3 rfl) ?_
            refine lv_aload_n hx hb dX1_type_44 rfl (lv_at hl 3 rfl) ?_
            refine va_get (D := (dC, dI)) (ci := 1) (v := .ref gw) (C := RX1) (T := TX1) (N := 13) hx hb hts hin hown hK hP 0 rfl rfl 6 (by decide) (hts _ (List.mem_cons_of_mem _ tk_fl_22)) (fun _ h9 => h9) rfl dX1_type_45 ?_
            refine lv_iload hx hb dX1_type_48 (lv_at hl 0 rfl) ?_
            refine va_iald hx hb hK hP 5 0 rfl rfl (vp_in_nI (by omega) (by decide)) dX1_type_50 ?_
            refine kv_topi (y := wv k) (by rw [nI_clamp (by omega)]) ?_
            refine kc_R [.int (wv k)] [] ⟨hx, hb, hml, hown, hts⟩ (cM_isKind l dC dI g0 gp gr gm gl gw gn cI pv nc tr tm tp mt wv 0 re nm np kk kn (wv k)) (cwV 1 hts gZ_type_isKind rfl rfl rfl (by decide +kernel) ⟨(Nat.le_of_ble_eq_true rfl), (Nat.le_of_ble_eq_true rfl)⟩) hP hK (ci := 1) (q0 := 0) rfl rfl rfl rfl hl.1 rfl (Nat.le_of_ble_eq_true rfl) dX1_type_51 ⟨Nat.zero_le _, Nat.zero_le _⟩ ?_
            refine lv_if_eq (tgt := 71) hx hb dX1_type_54 (by decide) (fun c54 => ?_) (fun c54 => ?_)
            · refine lv_iconst (v := 0) hx hb dX1_type_71 (by decide) ?_
              refine lv_istore_n (lv' := [(3, .int 0), (4, .int (nI k)), (2, .int (nI nw)), (0, .ref g0), (1, .int x1)]) hx hb dX1_type_72 rfl hl (by decide) rfl (fun ls hl => ?_)
              refine lv_iinc (v := nI (k + 1)) (lv' := [(4, .int (nI (k + 1))), (3, .int 0), (2, .int (nI nw)), (0, .ref g0), (1, .int x1)]) hx hb dX1_type_73 hl (k := 1) rfl (nI_1 k) (by decide) rfl (fun ls hl => ?_)
              refine lv_goto (tgt := 33) hx hb dX1_type_76 (by decide) ?_
              exact ih (k + 1) false (by omega) (by rw [mall, ← hfb, bI_n0 c40, bI_e0 c54] <;> rfl) ls (lv_sub hl [0, 1, 2, 3, 4] rfl)
            · refine lv_aload_n hx hb dX1_type_57 rfl (lv_at hl 3 rfl) ?_
              refine va_get (D := (dC, dI)) (ci := 1) (v := .ref gw) (C := RX1) (T := TX1) (N := 13) hx hb hts hin hown hK hP 0 rfl rfl 6 (by decide) (hts _ (List.mem_cons_of_mem _ tk_fl_22)) (fun _ h9 => h9) rfl dX1_type_58 ?_
              refine lv_iload hx hb dX1_type_61 (lv_at hl 0 rfl) ?_
              refine va_iald hx hb hK hP 5 0 rfl rfl (vp_in_nI (by omega) (by decide)) dX1_type_63 ?_
              refine kv_topi (y := wv k) (by rw [nI_clamp (by omega)]) ?_
              refine lv_if_eq (tgt := 71) hx hb dX1_type_64 (by decide) (fun c64 => ?_) (fun c64 => ?_)
              · refine lv_iconst (v := 0) hx hb dX1_type_71 (by decide) ?_
                refine lv_istore_n (lv' := [(3, .int 0), (4, .int (nI k)), (2, .int (nI nw)), (0, .ref g0), (1, .int x1)]) hx hb dX1_type_72 rfl hl (by decide) rfl (fun ls hl => ?_)
                refine lv_iinc (v := nI (k + 1)) (lv' := [(4, .int (nI (k + 1))), (3, .int 0), (2, .int (nI nw)), (0, .ref g0), (1, .int x1)]) hx hb dX1_type_73 hl (k := 1) rfl (nI_1 k) (by decide) rfl (fun ls hl => ?_)
                refine lv_goto (tgt := 33) hx hb dX1_type_76 (by decide) ?_
                exact ih (k + 1) false (by omega) (by rw [mall, ← hfb, bI_n0 c40, bI_n0 c54, decide_eq_true c64] <;> rfl) ls (lv_sub hl [0, 1, 2, 3, 4] rfl)
              · refine lv_iconst (v := 1) hx hb dX1_type_67 (by decide) ?_
                refine lv_goto (tgt := 72) hx hb dX1_type_68 (by decide) ?_
                refine lv_istore_n (lv' := [(3, .int 1), (4, .int (nI k)), (2, .int (nI nw)), (0, .ref g0), (1, .int x1)]) hx hb dX1_type_72 rfl hl (by decide) rfl (fun ls hl => ?_)
                refine lv_iinc (v := nI (k + 1)) (lv' := [(4, .int (nI (k + 1))), (3, .int 1), (2, .int (nI nw)), (0, .ref g0), (1, .int x1)]) hx hb dX1_type_73 hl (k := 1) rfl (nI_1 k) (by decide) rfl (fun ls hl => ?_)
                refine lv_goto (tgt := 33) hx hb dX1_type_76 (by decide) ?_
                exact ih (k + 1) true (by omega) (by rw [mall, ← hfb, bI_n0 c40, bI_n0 c54, decide_eq_false c64] <;> rfl) ls (lv_sub hl [0, 1, 2, 3, 4] rfl)
set_option maxHeartbeats 4000000 in
set_option maxRecDepth 100000 in
theorem cM_changed (l : Launch) (dC : Nat → ClassId) (dI : Nat → Nat → Nat) (g0 gp gr gm gl gw gn : Nat) (cI : ClassId) (pv : Nat → Int32) (nc : Nat) (tr : Nat → Int32) (tm : Nat → Int32) (tp : Nat → Int32) (mt : Nat) (wv : Nat → Int32) (nw : Nat) (re : Int32) (nm : Nat) (np : Nat → Int32) (kk : Int32) (kn : Int64) (tM : Nat → Nat) (x1 : Int32) (x2 : Int32) (x3 : Int32) (x4 : Int32) (hmt : mt ≤ 300) (hTM : kTM tm tM mt) : Met l yX1_changed wsZ1_changed ({ frames := 2, cells := 0, slots := 0, locals := 47 }) (kPw (dC, dI) vwCl [(cI, .int)] (mW g0 gp gr gm gl gw gn cI pv nc tr tm tp mt wv nw re nm np kk kn) [.ref g0, .int x1, .int x2, .int x3, .int x4]) (kQw (dC, dI) vwCl (some (.int (if fM_chOK tm mt x1 x2 x3 x4 = true then (if (x2.toNatClampNeg + (tm x4.toNatClampNeg).toNatClampNeg + ((tm x1.toNatClampNeg).toNatClampNeg - (x2.toNatClampNeg + x3.toNatClampNeg))) ≤ 10 then nbR (fnd (fQ tr tm tp (chN3 tp np (x1.toNatClampNeg) (x2.toNatClampNeg) (x3.toNatClampNeg) (x4.toNatClampNeg) (tm x4.toNatClampNeg).toNatClampNeg ((tm x1.toNatClampNeg).toNatClampNeg - (x2.toNatClampNeg + x3.toNatClampNeg))) (tr x1.toNatClampNeg) (x2.toNatClampNeg + (tm x4.toNatClampNeg).toNatClampNeg + ((tm x1.toNatClampNeg).toNatClampNeg - (x2.toNatClampNeg + x3.toNatClampNeg)))) mt 0) mt else (-1 : Int32)) else (-1 : Int32)))) (mW g0 gp gr gm gl gw gn cI pv nc (if fM_chOK tm mt x1 x2 x3 x4 = true then (if (x2.toNatClampNeg + (tm x4.toNatClampNeg).toNatClampNeg + ((tm x1.toNatClampNeg).toNatClampNeg - (x2.toNatClampNeg + x3.toNatClampNeg))) ≤ 10 then nbV (fnd (fQ tr tm tp (chN3 tp np (x1.toNatClampNeg) (x2.toNatClampNeg) (x3.toNatClampNeg) (x4.toNatClampNeg) (tm x4.toNatClampNeg).toNatClampNeg ((tm x1.toNatClampNeg).toNatClampNeg - (x2.toNatClampNeg + x3.toNatClampNeg))) (tr x1.toNatClampNeg) (x2.toNatClampNeg + (tm x4.toNatClampNeg).toNatClampNeg + ((tm x1.toNatClampNeg).toNatClampNeg - (x2.toNatClampNeg + x3.toNatClampNeg)))) mt 0) mt tr (upd tr mt (tr x1.toNatClampNeg)) else tr) else tr) (if fM_chOK tm mt x1 x2 x3 x4 = true then (if (x2.toNatClampNeg + (tm x4.toNatClampNeg).toNatClampNeg + ((tm x1.toNatClampNeg).toNatClampNeg - (x2.toNatClampNeg + x3.toNatClampNeg))) ≤ 10 then nbV (fnd (fQ tr tm tp (chN3 tp np (x1.toNatClampNeg) (x2.toNatClampNeg) (x3.toNatClampNeg) (x4.toNatClampNeg) (tm x4.toNatClampNeg).toNatClampNeg ((tm x1.toNatClampNeg).toNatClampNeg - (x2.toNatClampNeg + x3.toNatClampNeg))) (tr x1.toNatClampNeg) (x2.toNatClampNeg + (tm x4.toNatClampNeg).toNatClampNeg + ((tm x1.toNatClampNeg).toNatClampNeg - (x2.toNatClampNeg + x3.toNatClampNeg)))) mt 0) mt tm (upd tm mt (nI (x2.toNatClampNeg + (tm x4.toNatClampNeg).toNatClampNeg + ((tm x1.toNatClampNeg).toNatClampNeg - (x2.toNatClampNeg + x3.toNatClampNeg))))) else tm) else tm) (if fM_chOK tm mt x1 x2 x3 x4 = true then (if (x2.toNatClampNeg + (tm x4.toNatClampNeg).toNatClampNeg + ((tm x1.toNatClampNeg).toNatClampNeg - (x2.toNatClampNeg + x3.toNatClampNeg))) ≤ 10 then nbV (fnd (fQ tr tm tp (chN3 tp np (x1.toNatClampNeg) (x2.toNatClampNeg) (x3.toNatClampNeg) (x4.toNatClampNeg) (tm x4.toNatClampNeg).toNatClampNeg ((tm x1.toNatClampNeg).toNatClampNeg - (x2.toNatClampNeg + x3.toNatClampNeg))) (tr x1.toNatClampNeg) (x2.toNatClampNeg + (tm x4.toNatClampNeg).toNatClampNeg + ((tm x1.toNatClampNeg).toNatClampNeg - (x2.toNatClampNeg + x3.toNatClampNeg)))) mt 0) mt tp (tpC tp (chN3 tp np (x1.toNatClampNeg) (x2.toNatClampNeg) (x3.toNatClampNeg) (x4.toNatClampNeg) (tm x4.toNatClampNeg).toNatClampNeg ((tm x1.toNatClampNeg).toNatClampNeg - (x2.toNatClampNeg + x3.toNatClampNeg))) mt (x2.toNatClampNeg + (tm x4.toNatClampNeg).toNatClampNeg + ((tm x1.toNatClampNeg).toNatClampNeg - (x2.toNatClampNeg + x3.toNatClampNeg)))) else tp) else tp) (if fM_chOK tm mt x1 x2 x3 x4 = true then (if (x2.toNatClampNeg + (tm x4.toNatClampNeg).toNatClampNeg + ((tm x1.toNatClampNeg).toNatClampNeg - (x2.toNatClampNeg + x3.toNatClampNeg))) ≤ 10 then nbN (fnd (fQ tr tm tp (chN3 tp np (x1.toNatClampNeg) (x2.toNatClampNeg) (x3.toNatClampNeg) (x4.toNatClampNeg) (tm x4.toNatClampNeg).toNatClampNeg ((tm x1.toNatClampNeg).toNatClampNeg - (x2.toNatClampNeg + x3.toNatClampNeg))) (tr x1.toNatClampNeg) (x2.toNatClampNeg + (tm x4.toNatClampNeg).toNatClampNeg + ((tm x1.toNatClampNeg).toNatClampNeg - (x2.toNatClampNeg + x3.toNatClampNeg)))) mt 0) mt else mt) else mt) wv nw (if fM_chOK tm mt x1 x2 x3 x4 = true then (tr x1.toNatClampNeg) else re) (if fM_chOK tm mt x1 x2 x3 x4 = true then (x2.toNatClampNeg + (tm x4.toNatClampNeg).toNatClampNeg + ((tm x1.toNatClampNeg).toNatClampNeg - (x2.toNatClampNeg + x3.toNatClampNeg))) else nm) (if fM_chOK tm mt x1 x2 x3 x4 = true then (chN3 tp np (x1.toNatClampNeg) (x2.toNatClampNeg) (x3.toNatClampNeg) (x4.toNatClampNeg) (tm x4.toNatClampNeg).toNatClampNeg ((tm x1.toNatClampNeg).toNatClampNeg - (x2.toNatClampNeg + x3.toNatClampNeg))) else np) kk kn) [g0, gp, gr, gm, gl, gw, gn]) 0 0 (fun q => q ∈ [g0, gp, gr, gm, gl, gw, gn]) := by
  refine Met.ofW (cc := cX1_changed) (maxL := 6) (ret := (some .int)) (by decide) rfl ?_
  intro p e s m args below meth c s₁ B hml hv
  obtain ⟨rfl, hP, hK, hD0⟩ := hv
  have hx := B.exec
  have hb := B.bytes
  have hr := B.returns
  have hts := atoms_spec (ws := wsZ1_changed) B.pre
  have hown : s.vm.findClass RX1 = some m.cls := findClass_of_methodNamed B.named
  have hlocks := B.notSynchronized
  have hin : ∀ w ∈ u_ws RX1 TX1 13, w ∈ wsZ1_changed := fun w h => List.mem_cons_of_mem _ (inZ1 w h)
  have hD : va_D (fun q => q ∈ [g0, gp, gr, gm, gl, gw, gn]) (mW g0 gp gr gm gl gw gn cI pv nc tr tm tp mt wv nw re nm np kk kn) := kD_self hD0 rfl
  have hS : va_S (fun q => q ∈ [g0, gp, gr, gm, gl, gw, gn]) s.heap s.heap [] := va_S.rf
  have hl := lv_entry ([.ref g0, .int x1, .int x2, .int x3, .int x4]) (n := 6) (Nat.le_of_ble_eq_true rfl)
  rw [lg_entry_eq]
  generalize (lg_sl ([.ref g0, .int x1, .int x2, .int x3, .int x4]) ++ List.replicate (6 - (lg_sl ([.ref g0, .int x1, .int x2, .int x3, .int x4])).length) Slot.unset).toArray = ls at hl ⊢
  have hl : lv_has ls 6 [(0, .ref g0), (1, .int x1), (2, .int x2), (3, .int x3), (4, .int x4)] := hl
  refine lv_aload_n hx hb dX1_changed_0 rfl (lv_at hl 0 rfl) ?_
  refine lv_iload_n hx hb dX1_changed_1 rfl (lv_at hl 1 rfl) ?_
  refine kc_R [.int x1] [] ⟨hx, hb, hml, hown, hts⟩ (cM_isType l dC dI g0 gp gr gm gl gw gn cI pv nc tr tm tp mt wv nw re nm np kk kn x1) (cwV 1 hts gZ_changed_isType rfl rfl rfl (by decide +kernel) ⟨(Nat.le_of_ble_eq_true rfl), (Nat.le_of_ble_eq_true rfl)⟩) hP hK (ci := 1) (q0 := 0) rfl rfl rfl rfl hl.1 rfl (Nat.le_of_ble_eq_true rfl) dX1_changed_2 ⟨Nat.zero_le _, Nat.zero_le _⟩ ?_
  refine lv_if_eq (tgt := 41) hx hb dX1_changed_5 (by decide) (fun c5 => ?_) (fun c5 => ?_)
  · refine lv_iconst (v := -1) hx hb dX1_changed_41 (by decide) ?_
    exact W.iret hx hb hr (fun t ht hW => ⟨by rw [if_neg (show ¬ fM_chOK tm mt x1 x2 x3 x4 = true from (by rw [fM_chOK, if_pos c5]; decide))] <;> rfl, by rw [ht]; simp only [if_neg (show ¬ fM_chOK tm mt x1 x2 x3 x4 = true from (by rw [fM_chOK, if_pos c5]; decide))]; exact hP, hS.F ht⟩) hS.2.2 dX1_changed_42
  · refine lv_aload_n hx hb dX1_changed_8 rfl (lv_at hl 0 rfl) ?_
    refine lv_iload hx hb dX1_changed_9 (lv_at hl 4 rfl) ?_
    refine kc_R [.int x4] [] ⟨hx, hb, hml, hown, hts⟩ (cM_isType l dC dI g0 gp gr gm gl gw gn cI pv nc tr tm tp mt wv nw re nm np kk kn x4) (cwV 1 hts gZ_changed_isType rfl rfl rfl (by decide +kernel) ⟨(Nat.le_of_ble_eq_true rfl), (Nat.le_of_ble_eq_true rfl)⟩) hP hK (ci := 1) (q0 := 0) rfl rfl rfl rfl hl.1 rfl (Nat.le_of_ble_eq_true rfl) dX1_changed_11 ⟨Nat.zero_le _, Nat.zero_le _⟩ ?_
    refine lv_if_eq (tgt := 41) hx hb dX1_changed_14 (by decide) (fun c14 => ?_) (fun c14 => ?_)
    · refine lv_iconst (v := -1) hx hb dX1_changed_41 (by decide) ?_
      exact W.iret hx hb hr (fun t ht hW => ⟨by rw [if_neg (show ¬ fM_chOK tm mt x1 x2 x3 x4 = true from (by rw [fM_chOK, if_neg c5, if_pos c14]; decide))] <;> rfl, by rw [ht]; simp only [if_neg (show ¬ fM_chOK tm mt x1 x2 x3 x4 = true from (by rw [fM_chOK, if_neg c5, if_pos c14]; decide))]; exact hP, hS.F ht⟩) hS.2.2 dX1_changed_42
    · obtain ⟨i, hi, rfl⟩ := vp_in_of (mT_in hmt c5) (by omega)
      obtain ⟨u, hu, rfl⟩ := vp_in_of (mT_in hmt c14) (by omega)
      have hti := (hTM i hi).2
      have htu := (hTM u hu).2
      refine lv_iload_n hx hb dX1_changed_17 rfl (lv_at hl 2 rfl) ?_
      refine lv_if_lt (tgt := 41) hx hb dX1_changed_18 (by decide) (fun c18 => ?_) (fun c18 => ?_)
      · refine lv_iconst (v := -1) hx hb dX1_changed_41 (by decide) ?_
        exact W.iret hx hb hr (fun t ht hW => ⟨by rw [if_neg (show ¬ fM_chOK tm mt (nI i) x2 x3 (nI u) = true from (by rw [fM_chOK, if_neg c5, if_neg c14, if_pos c18]; decide))] <;> rfl, by rw [ht]; simp only [if_neg (show ¬ fM_chOK tm mt (nI i) x2 x3 (nI u) = true from (by rw [fM_chOK, if_neg c5, if_neg c14, if_pos c18]; decide))]; exact hP, hS.F ht⟩) hS.2.2 dX1_changed_42
      · refine lv_iload_n hx hb dX1_changed_21 rfl (lv_at hl 3 rfl) ?_
        refine lv_if_lt (tgt := 41) hx hb dX1_changed_22 (by decide) (fun c22 => ?_) (fun c22 => ?_)
        · refine lv_iconst (v := -1) hx hb dX1_changed_41 (by decide) ?_
          exact W.iret hx hb hr (fun t ht hW => ⟨by rw [if_neg (show ¬ fM_chOK tm mt (nI i) x2 x3 (nI u) = true from (by rw [fM_chOK, if_neg c5, if_neg c14, if_neg c18, if_pos c22]; decide))] <;> rfl, by rw [ht]; simp only [if_neg (show ¬ fM_chOK tm mt (nI i) x2 x3 (nI u) = true from (by rw [fM_chOK, if_neg c5, if_neg c14, if_neg c18, if_pos c22]; decide))]; exact hP, hS.F ht⟩) hS.2.2 dX1_changed_42
        · obtain ⟨a, ha, rfl⟩ := nI_of c18
          obtain ⟨b, hb2, rfl⟩ := nI_of c22
          refine lv_iload_n hx hb dX1_changed_25 rfl (lv_at hl 2 rfl) ?_
          refine lv_i2l hx hb dX1_changed_26 rfl ?_
          refine lv_iload_n hx hb dX1_changed_27 rfl (lv_at hl 3 rfl) ?_
          refine lv_i2l hx hb dX1_changed_28 rfl ?_
          refine lv_ladd hx hb dX1_changed_29 ?_
          refine lv_aload_n hx hb dX1_changed_30 rfl (lv_at hl 0 rfl) ?_
          refine va_get (D := (dC, dI)) (ci := 1) (v := .ref gm) (C := RX1) (T := TX1) (N := 13) hx hb hts hin hown hK hP 0 rfl rfl 3 (by decide) (hts _ (List.mem_cons_of_mem _ tk_fl_16)) (fun _ h9 => h9) rfl dX1_changed_31 ?_
          refine lv_iload_n hx hb dX1_changed_34 rfl (lv_at hl 1 rfl) ?_
          refine va_iald hx hb hK hP 3 0 rfl rfl (vp_in_nI (by omega) (by decide)) dX1_changed_35 ?_
          refine kv_topi (y := nI (tM i)) (by rw [nI_clamp (by omega), (hTM i hi).1]) ?_
          refine lv_i2l hx hb dX1_changed_36 rfl ?_
          refine W.lcmp hx hb dX1_changed_37 ?_
          refine lv_if_le (tgt := 43) hx hb dX1_changed_38 (by decide) (fun c38 => ?_) (fun c38 => ?_)
          · have hab : a + b ≤ tM i := (ch_le ha hb2 hti).mp c38
            have hok : fM_chOK tm mt (nI i) (nI a) (nI b) (nI u) = true := by rw [fM_chOK, if_neg c5, if_neg c14, if_neg c18, if_neg c22, nI_clamp (by omega), (hTM i hi).1, if_pos c38]
            have hci : (nI i).toNatClampNeg = i := nI_clamp (by omega)
            have hca : (nI a).toNatClampNeg = a := nI_clamp (by omega)
            have hcb : (nI b).toNatClampNeg = b := nI_clamp (by omega)
            have hcu : (nI u).toNatClampNeg = u := nI_clamp (by omega)
            have hcmi : (nI (tM i)).toNatClampNeg = tM i := nI_clamp (by omega)
            have hcmu : (nI (tM u)).toNatClampNeg = tM u := nI_clamp (by omega)
            refine lv_aload_n hx hb dX1_changed_43 rfl (lv_at hl 0 rfl) ?_
            refine lv_aload_n hx hb dX1_changed_44 rfl (lv_at hl 0 rfl) ?_
            refine va_get (D := (dC, dI)) (ci := 1) (v := .ref gr) (C := RX1) (T := TX1) (N := 13) hx hb hts hin hown hK hP 0 rfl rfl 2 (by decide) (hts _ (List.mem_cons_of_mem _ tk_fl_13)) (fun _ h9 => h9) rfl dX1_changed_45 ?_
            refine lv_iload_n hx hb dX1_changed_48 rfl (lv_at hl 1 rfl) ?_
            refine va_iald hx hb hK hP 2 0 rfl rfl (vp_in_nI (by omega) (by decide)) dX1_changed_49 ?_
            refine kv_topi (y := tr i) (by rw [nI_clamp (by omega)]) ?_
            refine va_put (D := (dC, dI)) (ci := 1) (v := .int (tr i)) (ty := .int) (C := RX1) (T := TX1) (N := 13) hx hb hts hin tyX1 tyX1_ok nmX1 hown hK hP hD hS 0 rfl rfl 8 (by decide) (hts _ (List.mem_cons_of_mem _ tk_fl_57)) (fun _ h9 => h9) rfl (by decide +kernel) rfl rfl (Nat.le_of_ble_eq_true rfl) dX1_changed_50 (fun H locs hP hD hS => ?_)
            have hP : va_P (dC, dI) vwCl (mW g0 gp gr gm gl gw gn cI pv nc tr tm tp mt wv nw (tr i) nm np kk kn) H := hP
            have hD : va_D _ (mW g0 gp gr gm gl gw gn cI pv nc tr tm tp mt wv nw (tr i) nm np kk kn) := hD
            refine lv_aload_n hx hb dX1_changed_53 rfl (lv_at hl 0 rfl) ?_
            refine lv_iconst (v := 0) hx hb dX1_changed_54 (by decide) ?_
            refine kv_topi (y := nI 0) rfl ?_
            refine va_put (D := (dC, dI)) (ci := 1) (v := .int (nI 0)) (ty := .int) (C := RX1) (T := TX1) (N := 13) hx hb hts hin tyX1 tyX1_ok nmX1 hown hK hP hD hS 0 rfl rfl 9 (by decide) (hts _ (List.mem_cons_of_mem _ tk_fl_54)) (fun _ h9 => h9) rfl (by decide +kernel) rfl rfl (Nat.le_of_ble_eq_true rfl) dX1_changed_55 (fun H locs hP hD hS => ?_)
            have hP : va_P (dC, dI) vwCl (mW g0 gp gr gm gl gw gn cI pv nc tr tm tp mt wv nw (tr i) 0 np kk kn) H := hP
            have hD : va_D _ (mW g0 gp gr gm gl gw gn cI pv nc tr tm tp mt wv nw (tr i) 0 np kk kn) := hD
            refine lv_iconst (v := 0) hx hb dX1_changed_58 (by decide) ?_
            refine lv_istore (lv' := [(5, .int 0), (0, .ref g0), (1, .int (nI i)), (2, .int (nI a)), (3, .int (nI b)), (4, .int (nI u))]) hx hb dX1_changed_59 hl (by decide) rfl (fun ls hl => ?_)
            suffices loop1 : ∀ (n k : Nat), k + n = a → ∀ (H : Heap) (locs : List Loc), va_P (dC, dI) vwCl (mW g0 gp gr gm gl gw gn cI pv nc tr tm tp mt wv nw (tr i) k (chN1 tp np i k) kk kn) H → va_D (fun q => q ∈ [g0, gp, gr, gm, gl, gw, gn]) (mW g0 gp gr gm gl gw gn cI pv nc tr tm tp mt wv nw (tr i) k (chN1 tp np i k) kk kn) → va_S (fun q => q ∈ [g0, gp, gr, gm, gl, gw, gn]) s.heap H locs → ∀ (ls : Array Slot), lv_has ls 6 [(5, .int (nI (k))), (0, .ref g0), (1, .int (nI i)), (2, .int (nI a)), (3, .int (nI b)), (4, .int (nI u))] → W p l e (headSpec wsZ1_changed ({ frames := 2, cells := 0, slots := 0, locals := 47 })).room s m ([.ref g0, .int (nI i), .int (nI a), .int (nI b), .int (nI u)] : List Value).toArray below meth c H locs 0 0 (MQ below (kQw (dC, dI) vwCl (some (.int (if fM_chOK tm mt (nI i) (nI a) (nI b) (nI u) = true then (if ((nI a).toNatClampNeg + (tm (nI u).toNatClampNeg).toNatClampNeg + ((tm (nI i).toNatClampNeg).toNatClampNeg - ((nI a).toNatClampNeg + (nI b).toNatClampNeg))) ≤ 10 then nbR (fnd (fQ tr tm tp (chN3 tp np ((nI i).toNatClampNeg) ((nI a).toNatClampNeg) ((nI b).toNatClampNeg) ((nI u).toNatClampNeg) (tm (nI u).toNatClampNeg).toNatClampNeg ((tm (nI i).toNatClampNeg).toNatClampNeg - ((nI a).toNatClampNeg + (nI b).toNatClampNeg))) (tr (nI i).toNatClampNeg) ((nI a).toNatClampNeg + (tm (nI u).toNatClampNeg).toNatClampNeg + ((tm (nI i).toNatClampNeg).toNatClampNeg - ((nI a).toNatClampNeg + (nI b).toNatClampNeg)))) mt 0) mt else (-1 : Int32)) else (-1 : Int32)))) (mW g0 gp gr gm gl gw gn cI pv nc (if fM_chOK tm mt (nI i) (nI a) (nI b) (nI u) = true then (if ((nI a).toNatClampNeg + (tm (nI u).toNatClampNeg).toNatClampNeg + ((tm (nI i).toNatClampNeg).toNatClampNeg - ((nI a).toNatClampNeg + (nI b).toNatClampNeg))) ≤ 10 then nbV (fnd (fQ tr tm tp (chN3 tp np ((nI i).toNatClampNeg) ((nI a).toNatClampNeg) ((nI b).toNatClampNeg) ((nI u).toNatClampNeg) (tm (nI u).toNatClampNeg).toNatClampNeg ((tm (nI i).toNatClampNeg).toNatClampNeg - ((nI a).toNatClampNeg + (nI b).toNatClampNeg))) (tr (nI i).toNatClampNeg) ((nI a).toNatClampNeg + (tm (nI u).toNatClampNeg).toNatClampNeg + ((tm (nI i).toNatClampNeg).toNatClampNeg - ((nI a).toNatClampNeg + (nI b).toNatClampNeg)))) mt 0) mt tr (upd tr mt (tr (nI i).toNatClampNeg)) else tr) else tr) (if fM_chOK tm mt (nI i) (nI a) (nI b) (nI u) = true then (if ((nI a).toNatClampNeg + (tm (nI u).toNatClampNeg).toNatClampNeg + ((tm (nI i).toNatClampNeg).toNatClampNeg - ((nI a).toNatClampNeg + (nI b).toNatClampNeg))) ≤ 10 then nbV (fnd (fQ tr tm tp (chN3 tp np ((nI i).toNatClampNeg) ((nI a).toNatClampNeg) ((nI b).toNatClampNeg) ((nI u).toNatClampNeg) (tm (nI u).toNatClampNeg).toNatClampNeg ((tm (nI i).toNatClampNeg).toNatClampNeg - ((nI a).toNatClampNeg + (nI b).toNatClampNeg))) (tr (nI i).toNatClampNeg) ((nI a).toNatClampNeg + (tm (nI u).toNatClampNeg).toNatClampNeg + ((tm (nI i).toNatClampNeg).toNatClampNeg - ((nI a).toNatClampNeg + (nI b).toNatClampNeg)))) mt 0) mt tm (upd tm mt (nI ((nI a).toNatClampNeg + (tm (nI u).toNatClampNeg).toNatClampNeg + ((tm (nI i).toNatClampNeg).toNatClampNeg - ((nI a).toNatClampNeg + (nI b).toNatClampNeg))))) else tm) else tm) (if fM_chOK tm mt (nI i) (nI a) (nI b) (nI u) = true then (if ((nI a).toNatClampNeg + (tm (nI u).toNatClampNeg).toNatClampNeg + ((tm (nI i).toNatClampNeg).toNatClampNeg - ((nI a).toNatClampNeg + (nI b).toNatClampNeg))) ≤ 10 then nbV (fnd (fQ tr tm tp (chN3 tp np ((nI i).toNatClampNeg) ((nI a).toNatClampNeg) ((nI b).toNatClampNeg) ((nI u).toNatClampNeg) (tm (nI u).toNatClampNeg).toNatClampNeg ((tm (nI i).toNatClampNeg).toNatClampNeg - ((nI a).toNatClampNeg + (nI b).toNatClampNeg))) (tr (nI i).toNatClampNeg) ((nI a).toNatClampNeg + (tm (nI u).toNatClampNeg).toNatClampNeg + ((tm (nI i).toNatClampNeg).toNatClampNeg - ((nI a).toNatClampNeg + (nI b).toNatClampNeg)))) mt 0) mt tp (tpC tp (chN3 tp np ((nI i).toNatClampNeg) ((nI a).toNatClampNeg) ((nI b).toNatClampNeg) ((nI u).toNatClampNeg) (tm (nI u).toNatClampNeg).toNatClampNeg ((tm (nI i).toNatClampNeg).toNatClampNeg - ((nI a).toNatClampNeg + (nI b).toNatClampNeg))) mt ((nI a).toNatClampNeg + (tm (nI u).toNatClampNeg).toNatClampNeg + ((tm (nI i).toNatClampNeg).toNatClampNeg - ((nI a).toNatClampNeg + (nI b).toNatClampNeg)))) else tp) else tp) (if fM_chOK tm mt (nI i) (nI a) (nI b) (nI u) = true then (if ((nI a).toNatClampNeg + (tm (nI u).toNatClampNeg).toNatClampNeg + ((tm (nI i).toNatClampNeg).toNatClampNeg - ((nI a).toNatClampNeg + (nI b).toNatClampNeg))) ≤ 10 then nbN (fnd (fQ tr tm tp (chN3 tp np ((nI i).toNatClampNeg) ((nI a).toNatClampNeg) ((nI b).toNatClampNeg) ((nI u).toNatClampNeg) (tm (nI u).toNatClampNeg).toNatClampNeg ((tm (nI i).toNatClampNeg).toNatClampNeg - ((nI a).toNatClampNeg + (nI b).toNatClampNeg))) (tr (nI i).toNatClampNeg) ((nI a).toNatClampNeg + (tm (nI u).toNatClampNeg).toNatClampNeg + ((tm (nI i).toNatClampNeg).toNatClampNeg - ((nI a).toNatClampNeg + (nI b).toNatClampNeg)))) mt 0) mt else mt) else mt) wv nw (if fM_chOK tm mt (nI i) (nI a) (nI b) (nI u) = true then (tr (nI i).toNatClampNeg) else re) (if fM_chOK tm mt (nI i) (nI a) (nI b) (nI u) = true then ((nI a).toNatClampNeg + (tm (nI u).toNatClampNeg).toNatClampNeg + ((tm (nI i).toNatClampNeg).toNatClampNeg - ((nI a).toNatClampNeg + (nI b).toNatClampNeg))) else nm) (if fM_chOK tm mt (nI i) (nI a) (nI b) (nI u) = true then (chN3 tp np ((nI i).toNatClampNeg) ((nI a).toNatClampNeg) ((nI b).toNatClampNeg) ((nI u).toNatClampNeg) (tm (nI u).toNatClampNeg).toNatClampNeg ((tm (nI i).toNatClampNeg).toNatClampNeg - ((nI a).toNatClampNeg + (nI b).toNatClampNeg))) else np) kk kn) [g0, gp, gr, gm, gl, gw, gn]) ([.ref g0, .int (nI i), .int (nI a), .int (nI b), .int (nI u)] : List Value).toArray s 0 0 (fun q => q ∈ [g0, gp, gr, gm, gl, gw, gn])) (F0 m 61 ls []) by
              exact loop1 (a) 0 (by omega) H locs hP hD hS ls (lv_sub hl [0, 1, 2, 3, 4, 5] rfl)
            intro n
            induction n with
            | zero =>
              intro k hk H locs hP hD hS ls hl
              obtain rfl : a = k := by omega
              refine lv_iload hx hb dX1_changed_61 (lv_at hl 0 rfl) ?_
              refine lv_iload_n hx hb dX1_changed_63 rfl (lv_at hl 3 rfl) ?_
              refine lv_icmp_ge (tgt := 89) hx hb dX1_changed_64 (by decide) (fun c64 => ?_) (fun c64 => ?_)
              · refine lv_iconst (v := 0) hx hb dX1_changed_89 (by decide) ?_
                refine lv_istore (lv' := [(5, .int 0), (0, .ref g0), (1, .int (nI i)), (2, .int (nI a)), (3, .int (nI b)), (4, .int (nI u))]) hx hb dX1_changed_90 hl (by decide) rfl (fun ls hl => ?_)
                suffices loop2 : ∀ (n k : Nat), k + n = tM u → ∀ (H : Heap) (locs : List Loc), va_P (dC, dI) vwCl (mW g0 gp gr gm gl gw gn cI pv nc tr tm tp mt wv nw (tr i) (a + k) (chN2 tp np i a u k) kk kn) H → va_D (fun q => q ∈ [g0, gp, gr, gm, gl, gw, gn]) (mW g0 gp gr gm gl gw gn cI pv nc tr tm tp mt wv nw (tr i) (a + k) (chN2 tp np i a u k) kk kn) → va_S (fun q => q ∈ [g0, gp, gr, gm, gl, gw, gn]) s.heap H locs → ∀ (ls : Array Slot), lv_has ls 6 [(5, .int (nI (k))), (0, .ref g0), (1, .int (nI i)), (2, .int (nI a)), (3, .int (nI b)), (4, .int (nI u))] → W p l e (headSpec wsZ1_changed ({ frames := 2, cells := 0, slots := 0, locals := 47 })).room s m ([.ref g0, .int (nI i), .int (nI a), .int (nI b), .int (nI u)] : List Value).toArray below meth c H locs 0 0 (MQ below (kQw (dC, dI) vwCl (some (.int (if fM_chOK tm mt (nI i) (nI a) (nI b) (nI u) = true then (if ((nI a).toNatClampNeg + (tm (nI u).toNatClampNeg).toNatClampNeg + ((tm (nI i).toNatClampNeg).toNatClampNeg - ((nI a).toNatClampNeg + (nI b).toNatClampNeg))) ≤ 10 then nbR (fnd (fQ tr tm tp (chN3 tp np ((nI i).toNatClampNeg) ((nI a).toNatClampNeg) ((nI b).toNatClampNeg) ((nI u).toNatClampNeg) (tm (nI u).toNatClampNeg).toNatClampNeg ((tm (nI i).toNatClampNeg).toNatClampNeg - ((nI a).toNatClampNeg + (nI b).toNatClampNeg))) (tr (nI i).toNatClampNeg) ((nI a).toNatClampNeg + (tm (nI u).toNatClampNeg).toNatClampNeg + ((tm (nI i).toNatClampNeg).toNatClampNeg - ((nI a).toNatClampNeg + (nI b).toNatClampNeg)))) mt 0) mt else (-1 : Int32)) else (-1 : Int32)))) (mW g0 gp gr gm gl gw gn cI pv nc (if fM_chOK tm mt (nI i) (nI a) (nI b) (nI u) = true then (if ((nI a).toNatClampNeg + (tm (nI u).toNatClampNeg).toNatClampNeg + ((tm (nI i).toNatClampNeg).toNatClampNeg - ((nI a).toNatClampNeg + (nI b).toNatClampNeg))) ≤ 10 then nbV (fnd (fQ tr tm tp (chN3 tp np ((nI i).toNatClampNeg) ((nI a).toNatClampNeg) ((nI b).toNatClampNeg) ((nI u).toNatClampNeg) (tm (nI u).toNatClampNeg).toNatClampNeg ((tm (nI i).toNatClampNeg).toNatClampNeg - ((nI a).toNatClampNeg + (nI b).toNatClampNeg))) (tr (nI i).toNatClampNeg) ((nI a).toNatClampNeg + (tm (nI u).toNatClampNeg).toNatClampNeg + ((tm (nI i).toNatClampNeg).toNatClampNeg - ((nI a).toNatClampNeg + (nI b).toNatClampNeg)))) mt 0) mt tr (upd tr mt (tr (nI i).toNatClampNeg)) else tr) else tr) (if fM_chOK tm mt (nI i) (nI a) (nI b) (nI u) = true then (if ((nI a).toNatClampNeg + (tm (nI u).toNatClampNeg).toNatClampNeg + ((tm (nI i).toNatClampNeg).toNatClampNeg - ((nI a).toNatClampNeg + (nI b).toNatClampNeg))) ≤ 10 then nbV (fnd (fQ tr tm tp (chN3 tp np ((nI i).toNatClampNeg) ((nI a).toNatClampNeg) ((nI b).toNatClampNeg) ((nI u).toNatClampNeg) (tm (nI u).toNatClampNeg).toNatClampNeg ((tm (nI i).toNatClampNeg).toNatClampNeg - ((nI a).toNatClampNeg + (nI b).toNatClampNeg))) (tr (nI i).toNatClampNeg) ((nI a).toNatClampNeg + (tm (nI u).toNatClampNeg).toNatClampNeg + ((tm (nI i).toNatClampNeg).toNatClampNeg - ((nI a).toNatClampNeg + (nI b).toNatClampNeg)))) mt 0) mt tm (upd tm mt (nI ((nI a).toNatClampNeg + (tm (nI u).toNatClampNeg).toNatClampNeg + ((tm (nI i).toNatClampNeg).toNatClampNeg - ((nI a).toNatClampNeg + (nI b).toNatClampNeg))))) else tm) else tm) (if fM_chOK tm mt (nI i) (nI a) (nI b) (nI u) = true then (if ((nI a).toNatClampNeg + (tm (nI u).toNatClampNeg).toNatClampNeg + ((tm (nI i).toNatClampNeg).toNatClampNeg - ((nI a).toNatClampNeg + (nI b).toNatClampNeg))) ≤ 10 then nbV (fnd (fQ tr tm tp (chN3 tp np ((nI i).toNatClampNeg) ((nI a).toNatClampNeg) ((nI b).toNatClampNeg) ((nI u).toNatClampNeg) (tm (nI u).toNatClampNeg).toNatClampNeg ((tm (nI i).toNatClampNeg).toNatClampNeg - ((nI a).toNatClampNeg + (nI b).toNatClampNeg))) (tr (nI i).toNatClampNeg) ((nI a).toNatClampNeg + (tm (nI u).toNatClampNeg).toNatClampNeg + ((tm (nI i).toNatClampNeg).toNatClampNeg - ((nI a).toNatClampNeg + (nI b).toNatClampNeg)))) mt 0) mt tp (tpC tp (chN3 tp np ((nI i).toNatClampNeg) ((nI a).toNatClampNeg) ((nI b).toNatClampNeg) ((nI u).toNatClampNeg) (tm (nI u).toNatClampNeg).toNatClampNeg ((tm (nI i).toNatClampNeg).toNatClampNeg - ((nI a).toNatClampNeg + (nI b).toNatClampNeg))) mt ((nI a).toNatClampNeg + (tm (nI u).toNatClampNeg).toNatClampNeg + ((tm (nI i).toNatClampNeg).toNatClampNeg - ((nI a).toNatClampNeg + (nI b).toNatClampNeg)))) else tp) else tp) (if fM_chOK tm mt (nI i) (nI a) (nI b) (nI u) = true then (if ((nI a).toNatClampNeg + (tm (nI u).toNatClampNeg).toNatClampNeg + ((tm (nI i).toNatClampNeg).toNatClampNeg - ((nI a).toNatClampNeg + (nI b).toNatClampNeg))) ≤ 10 then nbN (fnd (fQ tr tm tp (chN3 tp np ((nI i).toNatClampNeg) ((nI a).toNatClampNeg) ((nI b).toNatClampNeg) ((nI u).toNatClampNeg) (tm (nI u).toNatClampNeg).toNatClampNeg ((tm (nI i).toNatClampNeg).toNatClampNeg - ((nI a).toNatClampNeg + (nI b).toNatClampNeg))) (tr (nI i).toNatClampNeg) ((nI a).toNatClampNeg + (tm (nI u).toNatClampNeg).toNatClampNeg + ((tm (nI i).toNatClampNeg).toNatClampNeg - ((nI a).toNatClampNeg + (nI b).toNatClampNeg)))) mt 0) mt else mt) else mt) wv nw (if fM_chOK tm mt (nI i) (nI a) (nI b) (nI u) = true then (tr (nI i).toNatClampNeg) else re) (if fM_chOK tm mt (nI i) (nI a) (nI b) (nI u) = true then ((nI a).toNatClampNeg + (tm (nI u).toNatClampNeg).toNatClampNeg + ((tm (nI i).toNatClampNeg).toNatClampNeg - ((nI a).toNatClampNeg + (nI b).toNatClampNeg))) else nm) (if fM_chOK tm mt (nI i) (nI a) (nI b) (nI u) = true then (chN3 tp np ((nI i).toNatClampNeg) ((nI a).toNatClampNeg) ((nI b).toNatClampNeg) ((nI u).toNatClampNeg) (tm (nI u).toNatClampNeg).toNatClampNeg ((tm (nI i).toNatClampNeg).toNatClampNeg - ((nI a).toNatClampNeg + (nI b).toNatClampNeg))) else np) kk kn) [g0, gp, gr, gm, gl, gw, gn]) ([.ref g0, .int (nI i), .int (nI a), .int (nI b), .int (nI u)] : List Value).toArray s 0 0 (fun q => q ∈ [g0, gp, gr, gm, gl, gw, gn])) (F0 m 92 ls []) by
                  exact loop2 (tM u) 0 (by omega) H locs hP hD hS ls (lv_sub hl [0, 1, 2, 3, 4, 5] rfl)
                intro n
                induction n with
                | zero =>
                  intro k hk H locs hP hD hS ls hl
                  obtain rfl : tM u = k := by omega
                  refine lv_iload hx hb dX1_changed_92 (lv_at hl 0 rfl) ?_
                  refine lv_aload_n hx hb dX1_changed_94 rfl (lv_at hl 1 rfl) ?_
                  refine va_get (D := (dC, dI)) (ci := 1) (v := .ref gm) (C := RX1) (T := TX1) (N := 13) hx hb hts hin hown hK hP 0 rfl rfl 3 (by decide) (hts _ (List.mem_cons_of_mem _ tk_fl_16)) (fun _ h9 => h9) rfl dX1_changed_95 ?_
                  refine lv_iload hx hb dX1_changed_98 (lv_at hl 5 rfl) ?_
                  refine va_iald hx hb hK hP 3 0 rfl rfl (vp_in_nI (by omega) (by decide)) dX1_changed_100 ?_
                  refine kv_topi (y := nI (tM u)) (by rw [nI_clamp (by omega), (hTM u hu).1]) ?_
                  refine lv_icmp_ge (tgt := 127) hx hb dX1_changed_101 (by decide) (fun c101 => ?_) (fun c101 => ?_)
                  · refine lv_iload_n hx hb dX1_changed_127 rfl (lv_at hl 3 rfl) ?_
                    refine lv_iload_n hx hb dX1_changed_128 rfl (lv_at hl 4 rfl) ?_
                    refine lv_iadd hx hb dX1_changed_129 ?_
                    refine kv_topi (y := nI (a + b + 0)) (nI_add a b) ?_
                    refine lv_istore (lv' := [(5, .int (nI (a + b + 0))), (0, .ref g0), (1, .int (nI i)), (2, .int (nI a)), (3, .int (nI b)), (4, .int (nI u))]) hx hb dX1_changed_130 hl (by decide) rfl (fun ls hl => ?_)
                    suffices loop3 : ∀ (n k : Nat), k + n = (tM i - (a + b)) → ∀ (H : Heap) (locs : List Loc), va_P (dC, dI) vwCl (mW g0 gp gr gm gl gw gn cI pv nc tr tm tp mt wv nw (tr i) (a + tM u + k) (chN3 tp np i a b u (tM u) k) kk kn) H → va_D (fun q => q ∈ [g0, gp, gr, gm, gl, gw, gn]) (mW g0 gp gr gm gl gw gn cI pv nc tr tm tp mt wv nw (tr i) (a + tM u + k) (chN3 tp np i a b u (tM u) k) kk kn) → va_S (fun q => q ∈ [g0, gp, gr, gm, gl, gw, gn]) s.heap H locs → ∀ (ls : Array Slot), lv_has ls 6 [(5, .int (nI (a + b + k))), (0, .ref g0), (1, .int (nI i)), (2, .int (nI a)), (3, .int (nI b)), (4, .int (nI u))] → W p l e (headSpec wsZ1_changed ({ frames := 2, cells := 0, slots := 0, locals := 47 })).room s m ([.ref g0, .int (nI i), .int (nI a), .int (nI b), .int (nI u)] : List Value).toArray below meth c H locs 0 0 (MQ below (kQw (dC, dI) vwCl (some (.int (if fM_chOK tm mt (nI i) (nI a) (nI b) (nI u) = true then (if ((nI a).toNatClampNeg + (tm (nI u).toNatClampNeg).toNatClampNeg + ((tm (nI i).toNatClampNeg).toNatClampNeg - ((nI a).toNatClampNeg + (nI b).toNatClampNeg))) ≤ 10 then nbR (fnd (fQ tr tm tp (chN3 tp np ((nI i).toNatClampNeg) ((nI a).toNatClampNeg) ((nI b).toNatClampNeg) ((nI u).toNatClampNeg) (tm (nI u).toNatClampNeg).toNatClampNeg ((tm (nI i).toNatClampNeg).toNatClampNeg - ((nI a).toNatClampNeg + (nI b).toNatClampNeg))) (tr (nI i).toNatClampNeg) ((nI a).toNatClampNeg + (tm (nI u).toNatClampNeg).toNatClampNeg + ((tm (nI i).toNatClampNeg).toNatClampNeg - ((nI a).toNatClampNeg + (nI b).toNatClampNeg)))) mt 0) mt else (-1 : Int32)) else (-1 : Int32)))) (mW g0 gp gr gm gl gw gn cI pv nc (if fM_chOK tm mt (nI i) (nI a) (nI b) (nI u) = true then (if ((nI a).toNatClampNeg + (tm (nI u).toNatClampNeg).toNatClampNeg + ((tm (nI i).toNatClampNeg).toNatClampNeg - ((nI a).toNatClampNeg + (nI b).toNatClampNeg))) ≤ 10 then nbV (fnd (fQ tr tm tp (chN3 tp np ((nI i).toNatClampNeg) ((nI a).toNatClampNeg) ((nI b).toNatClampNeg) ((nI u).toNatClampNeg) (tm (nI u).toNatClampNeg).toNatClampNeg ((tm (nI i).toNatClampNeg).toNatClampNeg - ((nI a).toNatClampNeg + (nI b).toNatClampNeg))) (tr (nI i).toNatClampNeg) ((nI a).toNatClampNeg + (tm (nI u).toNatClampNeg).toNatClampNeg + ((tm (nI i).toNatClampNeg).toNatClampNeg - ((nI a).toNatClampNeg + (nI b).toNatClampNeg)))) mt 0) mt tr (upd tr mt (tr (nI i).toNatClampNeg)) else tr) else tr) (if fM_chOK tm mt (nI i) (nI a) (nI b) (nI u) = true then (if ((nI a).toNatClampNeg + (tm (nI u).toNatClampNeg).toNatClampNeg + ((tm (nI i).toNatClampNeg).toNatClampNeg - ((nI a).toNatClampNeg + (nI b).toNatClampNeg))) ≤ 10 then nbV (fnd (fQ tr tm tp (chN3 tp np ((nI i).toNatClampNeg) ((nI a).toNatClampNeg) ((nI b).toNatClampNeg) ((nI u).toNatClampNeg) (tm (nI u).toNatClampNeg).toNatClampNeg ((tm (nI i).toNatClampNeg).toNatClampNeg - ((nI a).toNatClampNeg + (nI b).toNatClampNeg))) (tr (nI i).toNatClampNeg) ((nI a).toNatClampNeg + (tm (nI u).toNatClampNeg).toNatClampNeg + ((tm (nI i).toNatClampNeg).toNatClampNeg - ((nI a).toNatClampNeg + (nI b).toNatClampNeg)))) mt 0) mt tm (upd tm mt (nI ((nI a).toNatClampNeg + (tm (nI u).toNatClampNeg).toNatClampNeg + ((tm (nI i).toNatClampNeg).toNatClampNeg - ((nI a).toNatClampNeg + (nI b).toNatClampNeg))))) else tm) else tm) (if fM_chOK tm mt (nI i) (nI a) (nI b) (nI u) = true then (if ((nI a).toNatClampNeg + (tm (nI u).toNatClampNeg).toNatClampNeg + ((tm (nI i).toNatClampNeg).toNatClampNeg - ((nI a).toNatClampNeg + (nI b).toNatClampNeg))) ≤ 10 then nbV (fnd (fQ tr tm tp (chN3 tp np ((nI i).toNatClampNeg) ((nI a).toNatClampNeg) ((nI b).toNatClampNeg) ((nI u).toNatClampNeg) (tm (nI u).toNatClampNeg).toNatClampNeg ((tm (nI i).toNatClampNeg).toNatClampNeg - ((nI a).toNatClampNeg + (nI b).toNatClampNeg))) (tr (nI i).toNatClampNeg) ((nI a).toNatClampNeg + (tm (nI u).toNatClampNeg).toNatClampNeg + ((tm (nI i).toNatClampNeg).toNatClampNeg - ((nI a).toNatClampNeg + (nI b).toNatClampNeg)))) mt 0) mt tp (tpC tp (chN3 tp np ((nI i).toNatClampNeg) ((nI a).toNatClampNeg) ((nI b).toNatClampNeg) ((nI u).toNatClampNeg) (tm (nI u).toNatClampNeg).toNatClampNeg ((tm (nI i).toNatClampNeg).toNatClampNeg - ((nI a).toNatClampNeg + (nI b).toNatClampNeg))) mt ((nI a).toNatClampNeg + (tm (nI u).toNatClampNeg).toNatClampNeg + ((tm (nI i).toNatClampNeg).toNatClampNeg - ((nI a).toNatClampNeg + (nI b).toNatClampNeg)))) else tp) else tp) (if fM_chOK tm mt (nI i) (nI a) (nI b) (nI u) = true then (if ((nI a).toNatClampNeg + (tm (nI u).toNatClampNeg).toNatClampNeg + ((tm (nI i).toNatClampNeg).toNatClampNeg - ((nI a).toNatClampNeg + (nI b).toNatClampNeg))) ≤ 10 then nbN (fnd (fQ tr tm tp (chN3 tp np ((nI i).toNatClampNeg) ((nI a).toNatClampNeg) ((nI b).toNatClampNeg) ((nI u).toNatClampNeg) (tm (nI u).toNatClampNeg).toNatClampNeg ((tm (nI i).toNatClampNeg).toNatClampNeg - ((nI a).toNatClampNeg + (nI b).toNatClampNeg))) (tr (nI i).toNatClampNeg) ((nI a).toNatClampNeg + (tm (nI u).toNatClampNeg).toNatClampNeg + ((tm (nI i).toNatClampNeg).toNatClampNeg - ((nI a).toNatClampNeg + (nI b).toNatClampNeg)))) mt 0) mt else mt) else mt) wv nw (if fM_chOK tm mt (nI i) (nI a) (nI b) (nI u) = true then (tr (nI i).toNatClampNeg) else re) (if fM_chOK tm mt (nI i) (nI a) (nI b) (nI u) = true then ((nI a).toNatClampNeg + (tm (nI u).toNatClampNeg).toNatClampNeg + ((tm (nI i).toNatClampNeg).toNatClampNeg - ((nI a).toNatClampNeg + (nI b).toNatClampNeg))) else nm) (if fM_chOK tm mt (nI i) (nI a) (nI b) (nI u) = true then (chN3 tp np ((nI i).toNatClampNeg) ((nI a).toNatClampNeg) ((nI b).toNatClampNeg) ((nI u).toNatClampNeg) (tm (nI u).toNatClampNeg).toNatClampNeg ((tm (nI i).toNatClampNeg).toNatClampNeg - ((nI a).toNatClampNeg + (nI b).toNatClampNeg))) else np) kk kn) [g0, gp, gr, gm, gl, gw, gn]) ([.ref g0, .int (nI i), .int (nI a), .int (nI b), .int (nI u)] : List Value).toArray s 0 0 (fun q => q ∈ [g0, gp, gr, gm, gl, gw, gn])) (F0 m 132 ls []) by
                      exact loop3 ((tM i - (a + b))) 0 (by omega) H locs hP hD hS ls (lv_sub hl [0, 1, 2, 3, 4, 5] rfl)
                    intro n
                    induction n with
                    | zero =>
                      intro k hk H locs hP hD hS ls hl
                      obtain rfl : (tM i - (a + b)) = k := by omega
                      refine lv_iload hx hb dX1_changed_132 (lv_at hl 0 rfl) ?_
                      refine lv_aload_n hx hb dX1_changed_134 rfl (lv_at hl 1 rfl) ?_
                      refine va_get (D := (dC, dI)) (ci := 1) (v := .ref gm) (C := RX1) (T := TX1) (N := 13) hx hb hts hin hown hK hP 0 rfl rfl 3 (by decide) (hts _ (List.mem_cons_of_mem _ tk_fl_16)) (fun _ h9 => h9) rfl dX1_changed_135 ?_
                      refine lv_iload_n hx hb dX1_changed_138 rfl (lv_at hl 2 rfl) ?_
                      refine va_iald hx hb hK hP 3 0 rfl rfl (vp_in_nI (by omega) (by decide)) dX1_changed_139 ?_
                      refine kv_topi (y := nI (tM i)) (by rw [nI_clamp (by omega), (hTM i hi).1]) ?_
                      refine lv_icmp_ge (tgt := 165) hx hb dX1_changed_140 (by decide) (fun c140 => ?_) (fun c140 => ?_)
                      · refine lv_aload_n hx hb dX1_changed_165 rfl (lv_at hl 1 rfl) ?_
                        refine kc_W [] [] ⟨hx, hb, hml, hown, hts⟩ (cM_madeType l dC dI g0 gp gr gm gl gw gn cI pv nc tr tm tp mt wv nw (tr i) (a + tM u + (tM i - (a + b))) (chN3 tp np i a b u (tM u) (tM i - (a + b))) kk kn hmt (by omega)) (cwV 0 hts gZ_changed_madeType rfl rfl rfl (by decide +kernel) ⟨(Nat.le_of_ble_eq_true rfl), (Nat.le_of_ble_eq_true rfl)⟩) hP hK hD hS rfl (ci := 1) (q0 := 0) rfl rfl rfl rfl hl.1 rfl (Nat.le_of_ble_eq_true rfl) dX1_changed_166 ⟨Nat.zero_le _, Nat.zero_le _⟩ (fun H locs hP1 hS hk1 => ?_)
                        have hP : va_P (dC, dI) vwCl (mW g0 gp gr gm gl gw gn cI pv nc (if (a + tM u + (tM i - (a + b))) ≤ 10 then nbV (fnd (fQ tr tm tp (chN3 tp np i a b u (tM u) (tM i - (a + b))) (tr i) (a + tM u + (tM i - (a + b)))) mt 0) mt tr (upd tr mt (tr i)) else tr) (if (a + tM u + (tM i - (a + b))) ≤ 10 then nbV (fnd (fQ tr tm tp (chN3 tp np i a b u (tM u) (tM i - (a + b))) (tr i) (a + tM u + (tM i - (a + b)))) mt 0) mt tm (upd tm mt (nI (a + tM u + (tM i - (a + b))))) else tm) (if (a + tM u + (tM i - (a + b))) ≤ 10 then nbV (fnd (fQ tr tm tp (chN3 tp np i a b u (tM u) (tM i - (a + b))) (tr i) (a + tM u + (tM i - (a + b)))) mt 0) mt tp (tpC tp (chN3 tp np i a b u (tM u) (tM i - (a + b))) mt (a + tM u + (tM i - (a + b)))) else tp) (if (a + tM u + (tM i - (a + b))) ≤ 10 then nbN (fnd (fQ tr tm tp (chN3 tp np i a b u (tM u) (tM i - (a + b))) (tr i) (a + tM u + (tM i - (a + b)))) mt 0) mt else mt) wv nw (tr i) (a + tM u + (tM i - (a + b))) (chN3 tp np i a b u (tM u) (tM i - (a + b))) kk kn) H := hP1
                        have hD : va_D _ (mW g0 gp gr gm gl gw gn cI pv nc (if (a + tM u + (tM i - (a + b))) ≤ 10 then nbV (fnd (fQ tr tm tp (chN3 tp np i a b u (tM u) (tM i - (a + b))) (tr i) (a + tM u + (tM i - (a + b)))) mt 0) mt tr (upd tr mt (tr i)) else tr) (if (a + tM u + (tM i - (a + b))) ≤ 10 then nbV (fnd (fQ tr tm tp (chN3 tp np i a b u (tM u) (tM i - (a + b))) (tr i) (a + tM u + (tM i - (a + b)))) mt 0) mt tm (upd tm mt (nI (a + tM u + (tM i - (a + b))))) else tm) (if (a + tM u + (tM i - (a + b))) ≤ 10 then nbV (fnd (fQ tr tm tp (chN3 tp np i a b u (tM u) (tM i - (a + b))) (tr i) (a + tM u + (tM i - (a + b)))) mt 0) mt tp (tpC tp (chN3 tp np i a b u (tM u) (tM i - (a + b))) mt (a + tM u + (tM i - (a + b)))) else tp) (if (a + tM u + (tM i - (a + b))) ≤ 10 then nbN (fnd (fQ tr tm tp (chN3 tp np i a b u (tM u) (tM i - (a + b))) (tr i) (a + tM u + (tM i - (a + b)))) mt 0) mt else mt) wv nw (tr i) (a + tM u + (tM i - (a + b))) (chN3 tp np i a b u (tM u) (tM i - (a + b))) kk kn) := kD_same hD rfl
                        exact W.iret hx hb hr (fun t ht hW => ⟨by rw [if_pos hok]; simp only [hci, hca, hcb, hcu, (hTM i hi).1, (hTM u hu).1, hcmi, hcmu] <;> rfl, by rw [ht]; simp only [if_pos hok, hci, hca, hcb, hcu, (hTM i hi).1, (hTM u hu).1, hcmi, hcmu]; exact hP, hS.F ht⟩) hS.2.2 dX1_changed_169
                      · exact absurd (nI_le (by omega) (by omega)) c140
                    | succ n ih =>
                      intro k hk H locs hP hD hS ls hl
                      refine lv_iload hx hb dX1_changed_132 (lv_at hl 0 rfl) ?_
                      refine lv_aload_n hx hb dX1_changed_134 rfl (lv_at hl 1 rfl) ?_
                      refine va_get (D := (dC, dI)) (ci := 1) (v := .ref gm) (C := RX1) (T := TX1) (N := 13) hx hb hts hin hown hK hP 0 rfl rfl 3 (by decide) (hts _ (List.mem_cons_of_mem _ tk_fl_16)) (fun _ h9 => h9) rfl dX1_changed_135 ?_
                      refine lv_iload_n hx hb dX1_changed_138 rfl (lv_at hl 2 rfl) ?_
                      refine va_iald hx hb hK hP 3 0 rfl rfl (vp_in_nI (by omega) (by decide)) dX1_changed_139 ?_
                      refine kv_topi (y := nI (tM i)) (by rw [nI_clamp (by omega), (hTM i hi).1]) ?_
                      refine lv_icmp_ge (tgt := 165) hx hb dX1_changed_140 (by decide) (fun c140 => ?_) (fun c140 => ?_)
                      · exact absurd ((nI_leI (by omega) (by omega)).mp c140) (by omega)
                      · refine lv_aload_n hx hb dX1_changed_143 rfl (lv_at hl 1 rfl) ?_
                        refine lv_aload_n hx hb dX1_changed_144 rfl (lv_at hl 1 rfl) ?_
                        refine va_get (D := (dC, dI)) (ci := 1) (v := .ref gl) (C := RX1) (T := TX1) (N := 13) hx hb hts hin hown hK hP 0 rfl rfl 4 (by decide) (hts _ (List.mem_cons_of_mem _ tk_fl_19)) (fun _ h9 => h9) rfl dX1_changed_145 ?_
                        refine lv_bipush (v := 10) hx hb dX1_changed_148 (by decide) ?_
                        refine lv_iload_n hx hb dX1_changed_150 rfl (lv_at hl 2 rfl) ?_
                        refine lv_imul hx hb dX1_changed_151 ?_
                        refine lv_iload hx hb dX1_changed_152 (lv_at hl 0 rfl) ?_
                        refine lv_iadd hx hb dX1_changed_154 ?_
                        refine kv_topi (y := nI (10 * i + (a + b + k))) ix10 ?_
                        refine va_iald hx hb hK hP 4 0 rfl rfl (vp_in_nI (by omega) (by decide)) dX1_changed_155 ?_
                        refine kv_topi (y := tp (10 * i + (a + b + k))) (by rw [nI_clamp (by omega)]) ?_
                        refine kc_W [.int (tp (10 * i + (a + b + k)))] [] ⟨hx, hb, hml, hown, hts⟩ (cM_add l dC dI g0 gp gr gm gl gw gn cI pv nc tr tm tp mt wv nw (tr i) (a + tM u + k) (chN3 tp np i a b u (tM u) k) kk kn (tp (10 * i + (a + b + k))) (by omega)) (cwV 1 hts gZ_changed_add rfl rfl rfl (by decide +kernel) ⟨(Nat.le_of_ble_eq_true rfl), (Nat.le_of_ble_eq_true rfl)⟩) hP hK hD hS rfl (ci := 1) (q0 := 0) rfl rfl rfl rfl hl.1 rfl (Nat.le_of_ble_eq_true rfl) dX1_changed_156 ⟨Nat.zero_le _, Nat.zero_le _⟩ (fun H locs hP1 hS hk1 => ?_)
                        have hP : va_P (dC, dI) vwCl (mW g0 gp gr gm gl gw gn cI pv nc tr tm tp mt wv nw (tr i) ((a + tM u + k) + 1) (upd (chN3 tp np i a b u (tM u) k) (a + tM u + k) (tp (10 * i + (a + b + k)))) kk kn) H := hP1
                        have hD : va_D _ (mW g0 gp gr gm gl gw gn cI pv nc tr tm tp mt wv nw (tr i) ((a + tM u + k) + 1) (upd (chN3 tp np i a b u (tM u) k) (a + tM u + k) (tp (10 * i + (a + b + k)))) kk kn) := kD_same hD rfl
                        refine lv_iinc (v := nI (a + b + k + 1)) (lv' := [(5, .int (nI (a + b + k + 1))), (0, .ref g0), (1, .int (nI i)), (2, .int (nI a)), (3, .int (nI b)), (4, .int (nI u))]) hx hb dX1_changed_159 hl (k := 0) rfl (nI_1 _) (by decide) rfl (fun ls hl => ?_)
                        refine lv_goto (tgt := 132) hx hb dX1_changed_162 (by decide) ?_
                        exact ih (k + 1) (by omega) _ _ hP hD hS ls (lv_sub hl [0, 1, 2, 3, 4, 5] rfl)
                  · exact absurd (nI_le (by omega) (by omega)) c101
                | succ n ih =>
                  intro k hk H locs hP hD hS ls hl
                  refine lv_iload hx hb dX1_changed_92 (lv_at hl 0 rfl) ?_
                  refine lv_aload_n hx hb dX1_changed_94 rfl (lv_at hl 1 rfl) ?_
                  refine va_get (D := (dC, dI)) (ci := 1) (v := .ref gm) (C := RX1) (T := TX1) (N := 13) hx hb hts hin hown hK hP 0 rfl rfl 3 (by decide) (hts _ (List.mem_cons_of_mem _ tk_fl_16)) (fun _ h9 => h9) rfl dX1_changed_95 ?_
                  refine lv_iload hx hb dX1_changed_98 (lv_at hl 5 rfl) ?_
                  refine va_iald hx hb hK hP 3 0 rfl rfl (vp_in_nI (by omega) (by decide)) dX1_changed_100 ?_
                  refine kv_topi (y := nI (tM u)) (by rw [nI_clamp (by omega), (hTM u hu).1]) ?_
                  refine lv_icmp_ge (tgt := 127) hx hb dX1_changed_101 (by decide) (fun c101 => ?_) (fun c101 => ?_)
                  · exact absurd ((nI_leI (by omega) (by omega)).mp c101) (by omega)
                  · refine lv_aload_n hx hb dX1_changed_104 rfl (lv_at hl 1 rfl) ?_
                    refine lv_aload_n hx hb dX1_changed_105 rfl (lv_at hl 1 rfl) ?_
                    refine va_get (D := (dC, dI)) (ci := 1) (v := .ref gl) (C := RX1) (T := TX1) (N := 13) hx hb hts hin hown hK hP 0 rfl rfl 4 (by decide) (hts _ (List.mem_cons_of_mem _ tk_fl_19)) (fun _ h9 => h9) rfl dX1_changed_106 ?_
                    refine lv_bipush (v := 10) hx hb dX1_changed_109 (by decide) ?_
                    refine lv_iload hx hb dX1_changed_111 (lv_at hl 5 rfl) ?_
                    refine lv_imul hx hb dX1_changed_113 ?_
                    refine lv_iload hx hb dX1_changed_114 (lv_at hl 0 rfl) ?_
                    refine lv_iadd hx hb dX1_changed_116 ?_
                    refine kv_topi (y := nI (10 * u + k)) ix10 ?_
                    refine va_iald hx hb hK hP 4 0 rfl rfl (vp_in_nI (by omega) (by decide)) dX1_changed_117 ?_
                    refine kv_topi (y := tp (10 * u + k)) (by rw [nI_clamp (by omega)]) ?_
                    refine kc_W [.int (tp (10 * u + k))] [] ⟨hx, hb, hml, hown, hts⟩ (cM_add l dC dI g0 gp gr gm gl gw gn cI pv nc tr tm tp mt wv nw (tr i) (a + k) (chN2 tp np i a u k) kk kn (tp (10 * u + k)) (by omega)) (cwV 1 hts gZ_changed_add rfl rfl rfl (by decide +kernel) ⟨(Nat.le_of_ble_eq_true rfl), (Nat.le_of_ble_eq_true rfl)⟩) hP hK hD hS rfl (ci := 1) (q0 := 0) rfl rfl rfl rfl hl.1 rfl (Nat.le_of_ble_eq_true rfl) dX1_changed_118 ⟨Nat.zero_le _, Nat.zero_le _⟩ (fun H locs hP1 hS hk1 => ?_)
                    have hP : va_P (dC, dI) vwCl (mW g0 gp gr gm gl gw gn cI pv nc tr tm tp mt wv nw (tr i) ((a + k) + 1) (upd (chN2 tp np i a u k) (a + k) (tp (10 * u + k))) kk kn) H := hP1
                    have hD : va_D _ (mW g0 gp gr gm gl gw gn cI pv nc tr tm tp mt wv nw (tr i) ((a + k) + 1) (upd (chN2 tp np i a u k) (a + k) (tp (10 * u + k))) kk kn) := kD_same hD rfl
                    refine lv_iinc (v := nI (k + 1)) (lv' := [(5, .int (nI (k + 1))), (0, .ref g0), (1, .int (nI i)), (2, .int (nI a)), (3, .int (nI b)), (4, .int (nI u))]) hx hb dX1_changed_121 hl (k := 0) rfl (nI_1 _) (by decide) rfl (fun ls hl => ?_)
                    refine lv_goto (tgt := 92) hx hb dX1_changed_124 (by decide) ?_
                    exact ih (k + 1) (by omega) _ _ hP hD hS ls (lv_sub hl [0, 1, 2, 3, 4, 5] rfl)
              · exact absurd (nI_le (by omega) (by omega)) c64
            | succ n ih =>
              intro k hk H locs hP hD hS ls hl
              refine lv_iload hx hb dX1_changed_61 (lv_at hl 0 rfl) ?_
              refine lv_iload_n hx hb dX1_changed_63 rfl (lv_at hl 3 rfl) ?_
              refine lv_icmp_ge (tgt := 89) hx hb dX1_changed_64 (by decide) (fun c64 => ?_) (fun c64 => ?_)
              · exact absurd ((nI_leI (by omega) (by omega)).mp c64) (by omega)
              · refine lv_aload_n hx hb dX1_changed_67 rfl (lv_at hl 1 rfl) ?_
                refine lv_aload_n hx hb dX1_changed_68 rfl (lv_at hl 1 rfl) ?_
                refine va_get (D := (dC, dI)) (ci := 1) (v := .ref gl) (C := RX1) (T := TX1) (N := 13) hx hb hts hin hown hK hP 0 rfl rfl 4 (by decide) (hts _ (List.mem_cons_of_mem _ tk_fl_19)) (fun _ h9 => h9) rfl dX1_changed_69 ?_
                refine lv_bipush (v := 10) hx hb dX1_changed_72 (by decide) ?_
                refine lv_iload_n hx hb dX1_changed_74 rfl (lv_at hl 2 rfl) ?_
                refine lv_imul hx hb dX1_changed_75 ?_
                refine lv_iload hx hb dX1_changed_76 (lv_at hl 0 rfl) ?_
                refine lv_iadd hx hb dX1_changed_78 ?_
                refine kv_topi (y := nI (10 * i + k)) ix10 ?_
                refine va_iald hx hb hK hP 4 0 rfl rfl (vp_in_nI (by omega) (by decide)) dX1_changed_79 ?_
                refine kv_topi (y := tp (10 * i + k)) (by rw [nI_clamp (by omega)]) ?_
                refine kc_W [.int (tp (10 * i + k))] [] ⟨hx, hb, hml, hown, hts⟩ (cM_add l dC dI g0 gp gr gm gl gw gn cI pv nc tr tm tp mt wv nw (tr i) k (chN1 tp np i k) kk kn (tp (10 * i + k)) (by omega)) (cwV 1 hts gZ_changed_add rfl rfl rfl (by decide +kernel) ⟨(Nat.le_of_ble_eq_true rfl), (Nat.le_of_ble_eq_true rfl)⟩) hP hK hD hS rfl (ci := 1) (q0 := 0) rfl rfl rfl rfl hl.1 rfl (Nat.le_of_ble_eq_true rfl) dX1_changed_80 ⟨Nat.zero_le _, Nat.zero_le _⟩ (fun H locs hP1 hS hk1 => ?_)
                have hP : va_P (dC, dI) vwCl (mW g0 gp gr gm gl gw gn cI pv nc tr tm tp mt wv nw (tr i) (k + 1) (upd (chN1 tp np i k) k (tp (10 * i + k))) kk kn) H := hP1
                have hD : va_D _ (mW g0 gp gr gm gl gw gn cI pv nc tr tm tp mt wv nw (tr i) (k + 1) (upd (chN1 tp np i k) k (tp (10 * i + k))) kk kn) := kD_same hD rfl
                refine lv_iinc (v := nI (k + 1)) (lv' := [(5, .int (nI (k + 1))), (0, .ref g0), (1, .int (nI i)), (2, .int (nI a)), (3, .int (nI b)), (4, .int (nI u))]) hx hb dX1_changed_83 hl (k := 0) rfl (nI_1 _) (by decide) rfl (fun ls hl => ?_)
                refine lv_goto (tgt := 61) hx hb dX1_changed_86 (by decide) ?_
                exact ih (k + 1) (by omega) _ _ hP hD hS ls (lv_sub hl [0, 1, 2, 3, 4, 5] rfl)
          · refine lv_iconst (v := -1) hx hb dX1_changed_41 (by decide) ?_
            exact W.iret hx hb hr (fun t ht hW => ⟨by rw [if_neg (show ¬ fM_chOK tm mt (nI i) (nI a) (nI b) (nI u) = true from (by rw [fM_chOK, if_neg c5, if_neg c14, if_neg c18, if_neg c22, nI_clamp (by omega), (hTM i hi).1, if_neg c38]; decide))] <;> rfl, by rw [ht]; simp only [if_neg (show ¬ fM_chOK tm mt (nI i) (nI a) (nI b) (nI u) = true from (by rw [fM_chOK, if_neg c5, if_neg c14, if_neg c18, if_neg c22, nI_clamp (by omega), (hTM i hi).1, if_neg c38]; decide))]; exact hP, hS.F ht⟩) hS.2.2 dX1_changed_42
end
section
theorem kK_same {D : va_G} {cl : List vw_C} {tys : List (ClassId × FieldType)} {s : State} {c1 c2 : ClassId} {ty : FieldType} {a b : Nat} (hK : va_K D cl tys s) (ha : tys[a]? = some (c1, .int) ∧ ty = .int ∨ tys[a]? = some (c1, .long) ∧ ty = .long) (hb : tys[b]? = some (c2, ty)) : c1 = c2 := by
  rcases ha with ⟨ha, rfl⟩ | ⟨ha, rfl⟩
  · exact Option.some.inj ((hK.2 a _ ha).2.symm.trans (hK.2 b _ hb).2)
  · exact Option.some.inj ((hK.2 a _ ha).2.symm.trans (hK.2 b _ hb).2)
def iA (k : Nat) : Nat → Int32 := fun j => if j < k then fX_firstAbove (nI j) else 0
theorem iA_0 : iA 0 = fun _ => 0 := by
  funext j
  unfold iA
  rw [if_neg (by omega)]
theorem iA_s {k : Nat} (h : k < 2 ^ 31) : upd (iA k) (nI k).toNatClampNeg (fX_firstAbove (nI k)) = iA (k + 1) := by
  rw [nI_clamp h]
  funext j
  unfold upd iA
  by_cases c : j = k
  · rw [if_pos c, if_pos (by omega), c]
  · rw [if_neg c]
    by_cases d : j < k
    · rw [if_pos d, if_pos (by omega)]
    · rw [if_neg d, if_neg (by omega)]
theorem iA_bits : ∀ i, i < 20 → ∀ j, j < 32 → bt (fX_firstAbove (nI i)) j = bl0 i j := by decide +kernel

set_option maxHeartbeats 1000000 in
set_option maxRecDepth 100000 in
theorem cX_init (l : Launch) (dC : Nat → ClassId) (dI : Nat → Nat → Nat) (cI cJ : ClassId) (h0 sz : Nat) : Met l yX0_init wsX0_init ({ frames := 2, cells := 3, slots := 352, locals := 41 }) (va_Pc [.ref h0] (fun U => U.heap.size = sz ∧ va_P (dC, dI) vwCl [(h0, .inr (0, [.null, .int 0, .null, .int 0, .null, .int 0, .int 0, .long 0]))] U.heap ∧ va_K (dC, dI) vwCl [(cI, .int), (cJ, .long)] U ∧ va_D (fun _ => True) [(h0, .inr (0, [.null, .int 0, .null, .int 0, .null, .int 0, .int 0, .long 0]))])) (va_Qv (fun _ : Nat × Nat × Nat => True) (fun u t => va_P (dC, dI) vwCl (xW h0 u.1 u.2.1 u.2.2 cI cJ (iA 20) 20 (fun _ => 0) 0 (fun _ => 0) 0 0 0) t.heap ∧ va_D (va_A [(h0, .inr (0, [.null, .int 0, .null, .int 0, .null, .int 0, .int 0, .long 0]))] sz) (xW h0 u.1 u.2.1 u.2.2 cI cJ (iA 20) 20 (fun _ => 0) 0 (fun _ => 0) 0 0 0)) (va_A [(h0, .inr (0, [.null, .int 0, .null, .int 0, .null, .int 0, .int 0, .long 0]))] sz)) 3 352 (va_A [(h0, .inr (0, [.null, .int 0, .null, .int 0, .null, .int 0, .int 0, .long 0]))] sz) := by
  refine Met.ofW (cc := cX0_init) (maxL := 2) (ret := none) (by decide) rfl ?_
  intro p e s m args below meth c s₁ B hml hv
  obtain ⟨rfl, hsz, hP, hK, hD0⟩ := hv
  have hx := B.exec
  have hb := B.bytes
  have hr := B.returns
  have hts := atoms_spec (ws := wsX0_init) B.pre
  have hown : s.vm.findClass RX0 = some m.cls := findClass_of_methodNamed B.named
  have hlocks := B.notSynchronized
  have hinm : meth.name = "<init>" := (name_of_methodNamed B.named B.method).1
  have hin : ∀ w ∈ u_ws RX0 TX0 8, w ∈ wsX0_init := by decide +kernel
  subst hsz
  have hD := hD0.self (sz := s.heap.size)
  generalize hAe : (va_A [(h0, .inr (0, [.null, .int 0, .null, .int 0, .null, .int 0, .int 0, .long 0]))] s.heap.size) = A at hD ⊢
  have hA : ∀ q : Nat, s.heap.size ≤ q → A q := fun q h => by rw [← hAe]; exact Or.inr h
  have hS : va_S A s.heap s.heap [] := va_S.rf
  have hl := lv_entry ([.ref h0]) (n := 2) (Nat.le_of_ble_eq_true rfl)
  rw [lg_entry_eq]
  generalize (lg_sl ([.ref h0]) ++ List.replicate (2 - (lg_sl ([.ref h0])).length) Slot.unset).toArray = ls at hl ⊢
  have hl : lv_has ls 2 [(0, .ref h0)] := hl
  refine lv_aload_n hx hb dX0_init_0 rfl (lv_at hl 0 rfl) ?_
  refine W.objInit hx hb hown (hts (.methodLink RX0 3 objectInit) (by decide +kernel)) (hts (.instanceMethod objectInit) (by decide +kernel)) (hts (.code objectInit ⟨#[0xb1]⟩ 1 none) (by decide +kernel)) rfl (by rw [hml]; exact hl.1) rfl dX0_init_1 (Nat.le_of_ble_eq_true rfl) (Nat.le_of_ble_eq_true rfl) ?_
  refine W.eq (g2 := F0 m 4 ls []) rfl ?_
  refine lv_aload_n hx hb dX0_init_4 rfl (lv_at hl 0 rfl) ?_
  refine lv_bipush (v := 32) hx hb dX0_init_5 (by decide) ?_
  refine va_newa (atype := .int) hx hb (hts (.arrayClass .int) (by decide +kernel)) (ty := .int) rfl hK hP hD hS hA (N' := 32) (a0 := (32, .inl (fun _ => 0))) (fun _ => rfl) (by decide +kernel) (by decide +kernel) (by decide +kernel) (by decide : 0 + 1 ≤ 3) (by decide +kernel : 0 + 32 ≤ 352) dX0_init_7 (fun qa cA H hK9 hP hD hS => ?_)
  obtain rfl : cI = cA := kK_same hK9 (a := 0) (b := 2) (Or.inl ⟨rfl, rfl⟩) rfl
  have hP : va_P (dC, dI) vwCl [(h0, .inr (0, [.null, .int 0, .null, .int 0, .null, .int 0, .int 0, .long 0])), (qa, .inl (cI, 32, .inl (fun _ => 0)))] H := hP
  have hD : va_D _ [(h0, .inr (0, [.null, .int 0, .null, .int 0, .null, .int 0, .int 0, .long 0])), (qa, .inl (cI, 32, .inl (fun _ => 0)))] := hD
  refine W.widen (k := 1) (n := 32) (by omega) (by omega) ?_
  refine va_putF (D := (dC, dI)) (ci := 0) (v := .ref qa) (ty := .array .int) (C := RX0) (T := TX0) (N := 8) hx hb hts hin tyX0 tyX0_ok nmX0 hown hK hP hD hS 0 rfl rfl 0 (by decide) (hts (.fieldLink RX0 9 "KindTable" "above" "[I") (by decide +kernel)) (fun _ h9 => h9) rfl hinm rfl (by decide +kernel) rfl rfl (Nat.le_of_ble_eq_true rfl) dX0_init_9 (fun H locs hP hD hS => ?_)
  have hP : va_P (dC, dI) vwCl [(h0, .inr (0, [.ref qa, .int 0, .null, .int 0, .null, .int 0, .int 0, .long 0])), (qa, .inl (cI, 32, .inl (fun _ => 0)))] H := hP
  have hD : va_D _ [(h0, .inr (0, [.ref qa, .int 0, .null, .int 0, .null, .int 0, .int 0, .long 0])), (qa, .inl (cI, 32, .inl (fun _ => 0)))] := hD
  refine lv_iconst (v := 0) hx hb dX0_init_12 (by decide) ?_
  refine lv_istore_n (lv' := [(1, .int 0), (0, .ref h0)]) hx hb dX0_init_13 rfl hl (by decide) rfl (fun ls hl => ?_)
  have loop : ∀ (Q : State → Prop), (∀ (H : Heap) (locs : List Loc), va_P (dC, dI) vwCl [(h0, .inr (0, [.ref qa, .int 0, .null, .int 0, .null, .int 0, .int 0, .long 0])), (qa, .inl (cI, 32, .inl (iA 20)))] H → va_D A [(h0, .inr (0, [.ref qa, .int 0, .null, .int 0, .null, .int 0, .int 0, .long 0])), (qa, .inl (cI, 32, .inl (iA 20)))] → va_S A s.heap H locs → ∀ (ls : Array Slot), lv_has ls 2 [(1, .int (nI 20)), (0, .ref h0)] → W p l e (headSpec wsX0_init ({ frames := 2, cells := 3, slots := 352, locals := 41 })).room s m ([.ref h0] : List Value).toArray below meth c H locs 1 32 Q (F0 m 36 ls [])) → ∀ (n k : Nat), k + n = 20 → ∀ (H : Heap) (locs : List Loc), va_P (dC, dI) vwCl [(h0, .inr (0, [.ref qa, .int 0, .null, .int 0, .null, .int 0, .int 0, .long 0])), (qa, .inl (cI, 32, .inl (iA k)))] H → va_D A [(h0, .inr (0, [.ref qa, .int 0, .null, .int 0, .null, .int 0, .int 0, .long 0])), (qa, .inl (cI, 32, .inl (iA k)))] → va_S A s.heap H locs → ∀ (ls : Array Slot), lv_has ls 2 [(1, .int (nI k)), (0, .ref h0)] → W p l e (headSpec wsX0_init ({ frames := 2, cells := 3, slots := 352, locals := 41 })).room s m ([.ref h0] : List Value).toArray below meth c H locs 1 32 Q (F0 m 14 ls []) := by
    intro Q K n
    induction n with
    | zero =>
      intro k hk H locs hP hD hS ls hl
      obtain rfl : k = 20 := by omega
      refine lv_iload_n hx hb dX0_init_14 rfl (lv_at hl 0 rfl) ?_
      refine lv_bipush (v := 20) hx hb dX0_init_15 (by decide) ?_
      refine lv_icmp_ge (tgt := 36) hx hb dX0_init_17 (by decide) (fun c17 => ?_) (fun c17 => ?_)
      · exact K H locs hP hD hS ls (lv_sub hl [0, 1] rfl)
      · exact absurd (by decide) c17
    | succ n ih =>
      intro k hk H locs hP hD hS ls hl
      refine lv_iload_n hx hb dX0_init_14 rfl (lv_at hl 0 rfl) ?_
      refine lv_bipush (v := 20) hx hb dX0_init_15 (by decide) ?_
      refine lv_icmp_ge (tgt := 36) hx hb dX0_init_17 (by decide) (fun c17 => ?_) (fun c17 => ?_)
      · exact absurd ((nI_leI (a := 20) (by decide) (by omega)).mp c17) (by omega)
      · refine lv_aload_n hx hb dX0_init_20 rfl (lv_at hl 1 rfl) ?_
        refine va_get (D := (dC, dI)) (ci := 0) (v := .ref qa) (C := RX0) (T := TX0) (N := 8) hx hb hts hin hown hK hP 0 rfl rfl 0 (by decide) (hts (.fieldLink RX0 9 "KindTable" "above" "[I") (by decide +kernel)) (fun _ h9 => h9) rfl dX0_init_21 ?_
        refine lv_iload_n hx hb dX0_init_24 rfl (lv_at hl 0 rfl) ?_
        refine lv_iload_n hx hb dX0_init_25 rfl (lv_at hl 0 rfl) ?_
        refine kc_S [.int (nI k)] [.int (nI k), .ref qa] ⟨hx, hb, hml, hown, hts⟩ (cX_firstAbove l (nI k)) (cwS 1 hts gX0_init_X0_firstAbove rfl rfl rfl (by decide +kernel) ⟨(Nat.le_of_ble_eq_true rfl), (Nat.le_of_ble_eq_true rfl)⟩) rfl hl.1 rfl (Nat.le_of_ble_eq_true rfl) dX0_init_26 ⟨(by decide : 1 ≤ 3), (by decide : 32 ≤ 352)⟩ ?_
        refine va_iast hx hb hK hP hD hS 1 0 rfl rfl (vp_in_nI (by omega) (by decide)) dX0_init_29 (fun H locs hP hD hS => ?_)
        have e_as : upd (iA k) (nI k).toNatClampNeg (fX_firstAbove (nI k)) = iA (k + 1) := iA_s (by omega)
        have hP : va_P (dC, dI) vwCl [(h0, .inr (0, [.ref qa, .int 0, .null, .int 0, .null, .int 0, .int 0, .long 0])), (qa, .inl (cI, 32, .inl (iA (k + 1))))] H := by rw [← e_as]; exact hP
        have hD : va_D A [(h0, .inr (0, [.ref qa, .int 0, .null, .int 0, .null, .int 0, .int 0, .long 0])), (qa, .inl (cI, 32, .inl (iA (k + 1))))] := by rw [← e_as]; exact hD
        refine lv_iinc (v := nI (k + 1)) (lv' := [(1, .int (nI (k + 1))), (0, .ref h0)]) hx hb dX0_init_30 hl (k := 0) rfl (nI_1 k) (by decide) rfl (fun ls hl => ?_)
        refine lv_goto (tgt := 14) hx hb dX0_init_33 (by decide) ?_
        exact ih (k + 1) (by omega) H locs hP hD hS ls (lv_sub hl [0, 1] rfl)
  refine loop _ ?_ 20 0 rfl H locs (by rw [iA_0]; exact hP) (by rw [iA_0]; exact hD) hS ls (lv_sub hl [0, 1] rfl)
  intro H locs hP hD hS ls hl
  refine lv_aload_n hx hb dX0_init_36 rfl (lv_at hl 1 rfl) ?_
  refine lv_bipush (v := 20) hx hb dX0_init_37 (by decide) ?_
  refine va_put (D := (dC, dI)) (ci := 0) (v := .int 20) (ty := .int) (C := RX0) (T := TX0) (N := 8) hx hb hts hin tyX0 tyX0_ok nmX0 hown hK hP hD hS 0 rfl rfl 1 (by decide) (hts (.fieldLink RX0 17 "KindTable" "kindCount" "I") (by decide +kernel)) (fun _ h9 => h9) rfl (by decide +kernel) rfl rfl (Nat.le_of_ble_eq_true rfl) dX0_init_39 (fun H locs hP hD hS => ?_)
  have hP : va_P (dC, dI) vwCl [(h0, .inr (0, [.ref qa, .int 20, .null, .int 0, .null, .int 0, .int 0, .long 0])), (qa, .inl (cI, 32, .inl (iA 20)))] H := hP
  have hD : va_D _ [(h0, .inr (0, [.ref qa, .int 20, .null, .int 0, .null, .int 0, .int 0, .long 0])), (qa, .inl (cI, 32, .inl (iA 20)))] := hD
  refine lv_aload_n hx hb dX0_init_42 rfl (lv_at hl 1 rfl) ?_
  refine lv_bipush (v := 20) hx hb dX0_init_43 (by decide) ?_
  refine va_newa (atype := .int) hx hb (hts (.arrayClass .int) (by decide +kernel)) (ty := .int) rfl hK hP hD hS hA (N' := 20) (a0 := (20, .inl (fun _ => 0))) (fun _ => rfl) (by decide +kernel) (by decide +kernel) (by decide +kernel) (by decide : 1 + 1 ≤ 3) (by decide +kernel : 32 + 20 ≤ 352) dX0_init_45 (fun qr cA H hK9 hP hD hS => ?_)
  obtain rfl : cI = cA := kK_same hK9 (a := 0) (b := 2) (Or.inl ⟨rfl, rfl⟩) rfl
  have hP : va_P (dC, dI) vwCl [(h0, .inr (0, [.ref qa, .int 20, .null, .int 0, .null, .int 0, .int 0, .long 0])), (qa, .inl (cI, 32, .inl (iA 20))), (qr, .inl (cI, 20, .inl (fun _ => 0)))] H := hP
  have hD : va_D _ [(h0, .inr (0, [.ref qa, .int 20, .null, .int 0, .null, .int 0, .int 0, .long 0])), (qa, .inl (cI, 32, .inl (iA 20))), (qr, .inl (cI, 20, .inl (fun _ => 0)))] := hD
  refine W.widen (k := 2) (n := 52) (by omega) (by omega) ?_
  refine va_putF (D := (dC, dI)) (ci := 0) (v := .ref qr) (ty := .array .int) (C := RX0) (T := TX0) (N := 8) hx hb hts hin tyX0 tyX0_ok nmX0 hown hK hP hD hS 0 rfl rfl 2 (by decide) (hts (.fieldLink RX0 21 "KindTable" "row" "[I") (by decide +kernel)) (fun _ h9 => h9) rfl hinm rfl (by decide +kernel) rfl rfl (Nat.le_of_ble_eq_true rfl) dX0_init_47 (fun H locs hP hD hS => ?_)
  have hP : va_P (dC, dI) vwCl [(h0, .inr (0, [.ref qa, .int 20, .ref qr, .int 0, .null, .int 0, .int 0, .long 0])), (qa, .inl (cI, 32, .inl (iA 20))), (qr, .inl (cI, 20, .inl (fun _ => 0)))] H := hP
  have hD : va_D _ [(h0, .inr (0, [.ref qa, .int 20, .ref qr, .int 0, .null, .int 0, .int 0, .long 0])), (qa, .inl (cI, 32, .inl (iA 20))), (qr, .inl (cI, 20, .inl (fun _ => 0)))] := hD
  refine lv_aload_n hx hb dX0_init_50 rfl (lv_at hl 1 rfl) ?_
  refine lv_iconst (v := 0) hx hb dX0_init_51 (by decide) ?_
  refine va_put (D := (dC, dI)) (ci := 0) (v := .int 0) (ty := .int) (C := RX0) (T := TX0) (N := 8) hx hb hts hin tyX0 tyX0_ok nmX0 hown hK hP hD hS 0 rfl rfl 3 (by decide) (hts (.fieldLink RX0 24 "KindTable" "rowLength" "I") (by decide +kernel)) (fun _ h9 => h9) rfl (by decide +kernel) rfl rfl (Nat.le_of_ble_eq_true rfl) dX0_init_52 (fun H locs hP hD hS => ?_)
  have hP : va_P (dC, dI) vwCl [(h0, .inr (0, [.ref qa, .int 20, .ref qr, .int 0, .null, .int 0, .int 0, .long 0])), (qa, .inl (cI, 32, .inl (iA 20))), (qr, .inl (cI, 20, .inl (fun _ => 0)))] H := hP
  have hD : va_D _ [(h0, .inr (0, [.ref qa, .int 20, .ref qr, .int 0, .null, .int 0, .int 0, .long 0])), (qa, .inl (cI, 32, .inl (iA 20))), (qr, .inl (cI, 20, .inl (fun _ => 0)))] := hD
  refine lv_aload_n hx hb dX0_init_55 rfl (lv_at hl 1 rfl) ?_
  refine lv_sipush (v := 300) hx hb dX0_init_56 (by decide) ?_
  refine va_newa (atype := .long) hx hb (hts (.arrayClass .long) (by decide +kernel)) (ty := .long) rfl hK hP hD hS hA (N' := 300) (a0 := (300, .inr (.inl (fun _ => 0)))) (fun _ => rfl) (by decide +kernel) (by decide +kernel) (by decide +kernel) (by decide : 2 + 1 ≤ 3) (by decide +kernel : 52 + 300 ≤ 352) dX0_init_59 (fun qt cA H hK9 hP hD hS => ?_)
  obtain rfl : cJ = cA := kK_same hK9 (a := 1) (b := 2) (Or.inr ⟨rfl, rfl⟩) rfl
  have hP : va_P (dC, dI) vwCl [(h0, .inr (0, [.ref qa, .int 20, .ref qr, .int 0, .null, .int 0, .int 0, .long 0])), (qa, .inl (cI, 32, .inl (iA 20))), (qr, .inl (cI, 20, .inl (fun _ => 0))), (qt, .inl (cJ, 300, .inr (.inl (fun _ => 0))))] H := hP
  have hD : va_D _ [(h0, .inr (0, [.ref qa, .int 20, .ref qr, .int 0, .null, .int 0, .int 0, .long 0])), (qa, .inl (cI, 32, .inl (iA 20))), (qr, .inl (cI, 20, .inl (fun _ => 0))), (qt, .inl (cJ, 300, .inr (.inl (fun _ => 0))))] := hD
  refine W.widen (k := 3) (n := 352) (by omega) (by omega) ?_
  refine va_putF (D := (dC, dI)) (ci := 0) (v := .ref qt) (ty := .array .long) (C := RX0) (T := TX0) (N := 8) hx hb hts hin tyX0 tyX0_ok nmX0 hown hK hP hD hS 0 rfl rfl 4 (by decide) (hts (.fieldLink RX0 27 "KindTable" "types" "[J") (by decide +kernel)) (fun _ h9 => h9) rfl hinm rfl (by decide +kernel) rfl rfl (Nat.le_of_ble_eq_true rfl) dX0_init_61 (fun H locs hP hD hS => ?_)
  have hP : va_P (dC, dI) vwCl [(h0, .inr (0, [.ref qa, .int 20, .ref qr, .int 0, .ref qt, .int 0, .int 0, .long 0])), (qa, .inl (cI, 32, .inl (iA 20))), (qr, .inl (cI, 20, .inl (fun _ => 0))), (qt, .inl (cJ, 300, .inr (.inl (fun _ => 0))))] H := hP
  have hD : va_D _ [(h0, .inr (0, [.ref qa, .int 20, .ref qr, .int 0, .ref qt, .int 0, .int 0, .long 0])), (qa, .inl (cI, 32, .inl (iA 20))), (qr, .inl (cI, 20, .inl (fun _ => 0))), (qt, .inl (cJ, 300, .inr (.inl (fun _ => 0))))] := hD
  refine lv_aload_n hx hb dX0_init_64 rfl (lv_at hl 1 rfl) ?_
  refine lv_iconst (v := 0) hx hb dX0_init_65 (by decide) ?_
  refine va_put (D := (dC, dI)) (ci := 0) (v := .int 0) (ty := .int) (C := RX0) (T := TX0) (N := 8) hx hb hts hin tyX0 tyX0_ok nmX0 hown hK hP hD hS 0 rfl rfl 5 (by decide) (hts (.fieldLink RX0 31 "KindTable" "typeCount" "I") (by decide +kernel)) (fun _ h9 => h9) rfl (by decide +kernel) rfl rfl (Nat.le_of_ble_eq_true rfl) dX0_init_66 (fun H locs hP hD hS => ?_)
  have hP : va_P (dC, dI) vwCl [(h0, .inr (0, [.ref qa, .int 20, .ref qr, .int 0, .ref qt, .int 0, .int 0, .long 0])), (qa, .inl (cI, 32, .inl (iA 20))), (qr, .inl (cI, 20, .inl (fun _ => 0))), (qt, .inl (cJ, 300, .inr (.inl (fun _ => 0))))] H := hP
  have hD : va_D _ [(h0, .inr (0, [.ref qa, .int 20, .ref qr, .int 0, .ref qt, .int 0, .int 0, .long 0])), (qa, .inl (cI, 32, .inl (iA 20))), (qr, .inl (cI, 20, .inl (fun _ => 0))), (qt, .inl (cJ, 300, .inr (.inl (fun _ => 0))))] := hD
  refine lv_aload_n hx hb dX0_init_69 rfl (lv_at hl 1 rfl) ?_
  refine lv_iconst (v := 0) hx hb dX0_init_70 (by decide) ?_
  refine va_put (D := (dC, dI)) (ci := 0) (v := .int 0) (ty := .int) (C := RX0) (T := TX0) (N := 8) hx hb hts hin tyX0 tyX0_ok nmX0 hown hK hP hD hS 0 rfl rfl 6 (by decide) (hts (.fieldLink RX0 34 "KindTable" "passedKind" "I") (by decide +kernel)) (fun _ h9 => h9) rfl (by decide +kernel) rfl rfl (Nat.le_of_ble_eq_true rfl) dX0_init_71 (fun H locs hP hD hS => ?_)
  have hP : va_P (dC, dI) vwCl [(h0, .inr (0, [.ref qa, .int 20, .ref qr, .int 0, .ref qt, .int 0, .int 0, .long 0])), (qa, .inl (cI, 32, .inl (iA 20))), (qr, .inl (cI, 20, .inl (fun _ => 0))), (qt, .inl (cJ, 300, .inr (.inl (fun _ => 0))))] H := hP
  have hD : va_D _ [(h0, .inr (0, [.ref qa, .int 20, .ref qr, .int 0, .ref qt, .int 0, .int 0, .long 0])), (qa, .inl (cI, 32, .inl (iA 20))), (qr, .inl (cI, 20, .inl (fun _ => 0))), (qt, .inl (cJ, 300, .inr (.inl (fun _ => 0))))] := hD
  refine lv_aload_n hx hb dX0_init_74 rfl (lv_at hl 1 rfl) ?_
  refine lv_lconst (v := 0) hx hb dX0_init_75 (by decide) ?_
  refine va_put (D := (dC, dI)) (ci := 0) (v := .long 0) (ty := .long) (C := RX0) (T := TX0) (N := 8) hx hb hts hin tyX0 tyX0_ok nmX0 hown hK hP hD hS 0 rfl rfl 7 (by decide) (hts (.fieldLink RX0 37 "KindTable" "passedNumber" "J") (by decide +kernel)) (fun _ h9 => h9) rfl (by decide +kernel) rfl rfl (Nat.le_of_ble_eq_true rfl) dX0_init_76 (fun H locs hP hD hS => ?_)
  have hP : va_P (dC, dI) vwCl [(h0, .inr (0, [.ref qa, .int 20, .ref qr, .int 0, .ref qt, .int 0, .int 0, .long 0])), (qa, .inl (cI, 32, .inl (iA 20))), (qr, .inl (cI, 20, .inl (fun _ => 0))), (qt, .inl (cJ, 300, .inr (.inl (fun _ => 0))))] H := hP
  have hD : va_D _ [(h0, .inr (0, [.ref qa, .int 20, .ref qr, .int 0, .ref qt, .int 0, .int 0, .long 0])), (qa, .inl (cI, 32, .inl (iA 20))), (qr, .inl (cI, 20, .inl (fun _ => 0))), (qt, .inl (cJ, 300, .inr (.inl (fun _ => 0))))] := hD
  exact W.vret hx hb hr (fun t ht hW => ⟨⟨(qa, qr, qt), rfl, trivial, by rw [ht]; exact hP, hD⟩, hS.F ht⟩) hS.2.2 dX0_init_79
set_option maxHeartbeats 1000000 in
set_option maxRecDepth 100000 in
theorem cM_init (l : Launch) (dC : Nat → ClassId) (dI : Nat → Nat → Nat) (cI : ClassId) (g0 sz : Nat) : Met l yX1_init wsX1_init ({ frames := 1, cells := 6, slots := 3664, locals := 20 }) (va_Pc [.ref g0] (fun U => U.heap.size = sz ∧ va_P (dC, dI) vwCl [(g0, .inr (1, [.null, .int 0, .null, .null, .null, .int 0, .null, .int 0, .int 0, .int 0, .null, .int 0, .long 0]))] U.heap ∧ va_K (dC, dI) vwCl [(cI, .int)] U ∧ va_D (fun _ => True) [(g0, .inr (1, [.null, .int 0, .null, .null, .null, .int 0, .null, .int 0, .int 0, .int 0, .null, .int 0, .long 0]))])) (va_Qv (fun _ : Nat × Nat × Nat × Nat × Nat × Nat => True) (fun u t => va_P (dC, dI) vwCl (mW g0 u.1 u.2.1 u.2.2.1 u.2.2.2.1 u.2.2.2.2.1 u.2.2.2.2.2 cI (fun _ => 0) 0 (fun _ => 0) (fun _ => 0) (fun _ => 0) 0 (fun _ => 0) 0 0 0 (fun _ => 0) 0 0) t.heap ∧ va_D (va_A [(g0, .inr (1, [.null, .int 0, .null, .null, .null, .int 0, .null, .int 0, .int 0, .int 0, .null, .int 0, .long 0]))] sz) (mW g0 u.1 u.2.1 u.2.2.1 u.2.2.2.1 u.2.2.2.2.1 u.2.2.2.2.2 cI (fun _ => 0) 0 (fun _ => 0) (fun _ => 0) (fun _ => 0) 0 (fun _ => 0) 0 0 0 (fun _ => 0) 0 0)) (va_A [(g0, .inr (1, [.null, .int 0, .null, .null, .null, .int 0, .null, .int 0, .int 0, .int 0, .null, .int 0, .long 0]))] sz)) 6 3664 (va_A [(g0, .inr (1, [.null, .int 0, .null, .null, .null, .int 0, .null, .int 0, .int 0, .int 0, .null, .int 0, .long 0]))] sz) := by
  refine Met.ofW (cc := cX1_init) (maxL := 1) (ret := none) (by decide) rfl ?_
  intro p e s m args below meth c s₁ B hml hv
  obtain ⟨rfl, hsz, hP, hK, hD0⟩ := hv
  have hx := B.exec
  have hb := B.bytes
  have hr := B.returns
  have hts := atoms_spec (ws := wsX1_init) B.pre
  have hown : s.vm.findClass RX1 = some m.cls := findClass_of_methodNamed B.named
  have hlocks := B.notSynchronized
  have hinm : meth.name = "<init>" := (name_of_methodNamed B.named B.method).1
  have hin : ∀ w ∈ u_ws RX1 TX1 13, w ∈ wsX1_init := by decide +kernel
  subst hsz
  have hD := hD0.self (sz := s.heap.size)
  generalize hAe : (va_A [(g0, .inr (1, [.null, .int 0, .null, .null, .null, .int 0, .null, .int 0, .int 0, .int 0, .null, .int 0, .long 0]))] s.heap.size) = A at hD ⊢
  have hA : ∀ q : Nat, s.heap.size ≤ q → A q := fun q h => by rw [← hAe]; exact Or.inr h
  have hS : va_S A s.heap s.heap [] := va_S.rf
  have hl := lv_entry ([.ref g0]) (n := 1) (Nat.le_of_ble_eq_true rfl)
  rw [lg_entry_eq]
  generalize (lg_sl ([.ref g0]) ++ List.replicate (1 - (lg_sl ([.ref g0])).length) Slot.unset).toArray = ls at hl ⊢
  have hl : lv_has ls 1 [(0, .ref g0)] := hl
  refine lv_aload_n hx hb dX1_init_0 rfl (lv_at hl 0 rfl) ?_
  refine W.objInit hx hb hown (hts (.methodLink RX1 1 objectInit) (by decide +kernel)) (hts (.instanceMethod objectInit) (by decide +kernel)) (hts (.code objectInit ⟨#[0xb1]⟩ 1 none) (by decide +kernel)) rfl (by rw [hml]; exact hl.1) rfl dX1_init_1 (Nat.le_of_ble_eq_true rfl) (Nat.le_of_ble_eq_true rfl) ?_
  refine W.eq (g2 := F0 m 4 ls []) rfl ?_
  refine lv_aload_n hx hb dX1_init_4 rfl (lv_at hl 0 rfl) ?_
  refine lv_bipush (v := 12) hx hb dX1_init_5 (by decide) ?_
  refine va_newa (atype := .int) hx hb (hts (.arrayClass .int) (by decide +kernel)) (ty := .int) rfl hK hP hD hS hA (N' := 12) (a0 := (12, .inl (fun _ => 0))) (fun _ => rfl) (by decide +kernel) (by decide +kernel) (by decide +kernel) (by decide : 0 + 1 ≤ 6) (by decide +kernel : 0 + 12 ≤ 3664) dX1_init_7 (fun gp cA H hK9 hP hD hS => ?_)
  obtain rfl : cI = cA := kK_same hK9 (a := 0) (b := 1) (Or.inl ⟨rfl, rfl⟩) rfl
  have hP : va_P (dC, dI) vwCl [(g0, .inr (1, [.null, .int 0, .null, .null, .null, .int 0, .null, .int 0, .int 0, .int 0, .null, .int 0, .long 0])), (gp, .inl (cI, 12, .inl (fun _ => 0)))] H := hP
  have hD : va_D _ [(g0, .inr (1, [.null, .int 0, .null, .null, .null, .int 0, .null, .int 0, .int 0, .int 0, .null, .int 0, .long 0])), (gp, .inl (cI, 12, .inl (fun _ => 0)))] := hD
  refine W.widen (k := 1) (n := 12) (by omega) (by omega) ?_
  refine va_putF (D := (dC, dI)) (ci := 1) (v := .ref gp) (ty := .array .int) (C := RX1) (T := TX1) (N := 13) hx hb hts hin tyX1 tyX1_ok nmX1 hown hK hP hD hS 0 rfl rfl 0 (by decide) (hts (.fieldLink RX1 7 "KindTableModel" "parent" "[I") (by decide +kernel)) (fun _ h9 => h9) rfl hinm rfl (by decide +kernel) rfl rfl (Nat.le_of_ble_eq_true rfl) dX1_init_9 (fun H locs hP hD hS => ?_)
  have hP : va_P (dC, dI) vwCl [(g0, .inr (1, [.ref gp, .int 0, .null, .null, .null, .int 0, .null, .int 0, .int 0, .int 0, .null, .int 0, .long 0])), (gp, .inl (cI, 12, .inl (fun _ => 0)))] H := hP
  have hD : va_D _ [(g0, .inr (1, [.ref gp, .int 0, .null, .null, .null, .int 0, .null, .int 0, .int 0, .int 0, .null, .int 0, .long 0])), (gp, .inl (cI, 12, .inl (fun _ => 0)))] := hD
  refine lv_aload_n hx hb dX1_init_12 rfl (lv_at hl 0 rfl) ?_
  refine lv_sipush (v := 300) hx hb dX1_init_13 (by decide) ?_
  refine va_newa (atype := .int) hx hb (hts (.arrayClass .int) (by decide +kernel)) (ty := .int) rfl hK hP hD hS hA (N' := 300) (a0 := (300, .inl (fun _ => 0))) (fun _ => rfl) (by decide +kernel) (by decide +kernel) (by decide +kernel) (by decide : 1 + 1 ≤ 6) (by decide +kernel : 12 + 300 ≤ 3664) dX1_init_16 (fun gr cA H hK9 hP hD hS => ?_)
  obtain rfl : cI = cA := kK_same hK9 (a := 0) (b := 1) (Or.inl ⟨rfl, rfl⟩) rfl
  have hP : va_P (dC, dI) vwCl [(g0, .inr (1, [.ref gp, .int 0, .null, .null, .null, .int 0, .null, .int 0, .int 0, .int 0, .null, .int 0, .long 0])), (gp, .inl (cI, 12, .inl (fun _ => 0))), (gr, .inl (cI, 300, .inl (fun _ => 0)))] H := hP
  have hD : va_D _ [(g0, .inr (1, [.ref gp, .int 0, .null, .null, .null, .int 0, .null, .int 0, .int 0, .int 0, .null, .int 0, .long 0])), (gp, .inl (cI, 12, .inl (fun _ => 0))), (gr, .inl (cI, 300, .inl (fun _ => 0)))] := hD
  refine W.widen (k := 2) (n := 312) (by omega) (by omega) ?_
  refine va_putF (D := (dC, dI)) (ci := 1) (v := .ref gr) (ty := .array .int) (C := RX1) (T := TX1) (N := 13) hx hb hts hin tyX1 tyX1_ok nmX1 hown hK hP hD hS 0 rfl rfl 2 (by decide) (hts (.fieldLink RX1 13 "KindTableModel" "typeResult" "[I") (by decide +kernel)) (fun _ h9 => h9) rfl hinm rfl (by decide +kernel) rfl rfl (Nat.le_of_ble_eq_true rfl) dX1_init_18 (fun H locs hP hD hS => ?_)
  have hP : va_P (dC, dI) vwCl [(g0, .inr (1, [.ref gp, .int 0, .ref gr, .null, .null, .int 0, .null, .int 0, .int 0, .int 0, .null, .int 0, .long 0])), (gp, .inl (cI, 12, .inl (fun _ => 0))), (gr, .inl (cI, 300, .inl (fun _ => 0)))] H := hP
  have hD : va_D _ [(g0, .inr (1, [.ref gp, .int 0, .ref gr, .null, .null, .int 0, .null, .int 0, .int 0, .int 0, .null, .int 0, .long 0])), (gp, .inl (cI, 12, .inl (fun _ => 0))), (gr, .inl (cI, 300, .inl (fun _ => 0)))] := hD
  refine lv_aload_n hx hb dX1_init_21 rfl (lv_at hl 0 rfl) ?_
  refine lv_sipush (v := 300) hx hb dX1_init_22 (by decide) ?_
  refine va_newa (atype := .int) hx hb (hts (.arrayClass .int) (by decide +kernel)) (ty := .int) rfl hK hP hD hS hA (N' := 300) (a0 := (300, .inl (fun _ => 0))) (fun _ => rfl) (by decide +kernel) (by decide +kernel) (by decide +kernel) (by decide : 2 + 1 ≤ 6) (by decide +kernel : 312 + 300 ≤ 3664) dX1_init_25 (fun gm cA H hK9 hP hD hS => ?_)
  obtain rfl : cI = cA := kK_same hK9 (a := 0) (b := 1) (Or.inl ⟨rfl, rfl⟩) rfl
  have hP : va_P (dC, dI) vwCl [(g0, .inr (1, [.ref gp, .int 0, .ref gr, .null, .null, .int 0, .null, .int 0, .int 0, .int 0, .null, .int 0, .long 0])), (gp, .inl (cI, 12, .inl (fun _ => 0))), (gr, .inl (cI, 300, .inl (fun _ => 0))), (gm, .inl (cI, 300, .inl (fun _ => 0)))] H := hP
  have hD : va_D _ [(g0, .inr (1, [.ref gp, .int 0, .ref gr, .null, .null, .int 0, .null, .int 0, .int 0, .int 0, .null, .int 0, .long 0])), (gp, .inl (cI, 12, .inl (fun _ => 0))), (gr, .inl (cI, 300, .inl (fun _ => 0))), (gm, .inl (cI, 300, .inl (fun _ => 0)))] := hD
  refine W.widen (k := 3) (n := 612) (by omega) (by omega) ?_
  refine va_putF (D := (dC, dI)) (ci := 1) (v := .ref gm) (ty := .array .int) (C := RX1) (T := TX1) (N := 13) hx hb hts hin tyX1 tyX1_ok nmX1 hown hK hP hD hS 0 rfl rfl 3 (by decide) (hts (.fieldLink RX1 16 "KindTableModel" "typeMany" "[I") (by decide +kernel)) (fun _ h9 => h9) rfl hinm rfl (by decide +kernel) rfl rfl (Nat.le_of_ble_eq_true rfl) dX1_init_27 (fun H locs hP hD hS => ?_)
  have hP : va_P (dC, dI) vwCl [(g0, .inr (1, [.ref gp, .int 0, .ref gr, .ref gm, .null, .int 0, .null, .int 0, .int 0, .int 0, .null, .int 0, .long 0])), (gp, .inl (cI, 12, .inl (fun _ => 0))), (gr, .inl (cI, 300, .inl (fun _ => 0))), (gm, .inl (cI, 300, .inl (fun _ => 0)))] H := hP
  have hD : va_D _ [(g0, .inr (1, [.ref gp, .int 0, .ref gr, .ref gm, .null, .int 0, .null, .int 0, .int 0, .int 0, .null, .int 0, .long 0])), (gp, .inl (cI, 12, .inl (fun _ => 0))), (gr, .inl (cI, 300, .inl (fun _ => 0))), (gm, .inl (cI, 300, .inl (fun _ => 0)))] := hD
  refine lv_aload_n hx hb dX1_init_30 rfl (lv_at hl 0 rfl) ?_
  refine lv_sipush (v := 3000) hx hb dX1_init_31 (by decide) ?_
  refine va_newa (atype := .int) hx hb (hts (.arrayClass .int) (by decide +kernel)) (ty := .int) rfl hK hP hD hS hA (N' := 3000) (a0 := (3000, .inl (fun _ => 0))) (fun _ => rfl) (by decide +kernel) (by decide +kernel) (by decide +kernel) (by decide : 3 + 1 ≤ 6) (by decide +kernel : 612 + 3000 ≤ 3664) dX1_init_34 (fun gl cA H hK9 hP hD hS => ?_)
  obtain rfl : cI = cA := kK_same hK9 (a := 0) (b := 1) (Or.inl ⟨rfl, rfl⟩) rfl
  have hP : va_P (dC, dI) vwCl [(g0, .inr (1, [.ref gp, .int 0, .ref gr, .ref gm, .null, .int 0, .null, .int 0, .int 0, .int 0, .null, .int 0, .long 0])), (gp, .inl (cI, 12, .inl (fun _ => 0))), (gr, .inl (cI, 300, .inl (fun _ => 0))), (gm, .inl (cI, 300, .inl (fun _ => 0))), (gl, .inl (cI, 3000, .inl (fun _ => 0)))] H := hP
  have hD : va_D _ [(g0, .inr (1, [.ref gp, .int 0, .ref gr, .ref gm, .null, .int 0, .null, .int 0, .int 0, .int 0, .null, .int 0, .long 0])), (gp, .inl (cI, 12, .inl (fun _ => 0))), (gr, .inl (cI, 300, .inl (fun _ => 0))), (gm, .inl (cI, 300, .inl (fun _ => 0))), (gl, .inl (cI, 3000, .inl (fun _ => 0)))] := hD
  refine W.widen (k := 4) (n := 3612) (by omega) (by omega) ?_
  refine va_putF (D := (dC, dI)) (ci := 1) (v := .ref gl) (ty := .array .int) (C := RX1) (T := TX1) (N := 13) hx hb hts hin tyX1 tyX1_ok nmX1 hown hK hP hD hS 0 rfl rfl 4 (by decide) (hts (.fieldLink RX1 19 "KindTableModel" "typePlace" "[I") (by decide +kernel)) (fun _ h9 => h9) rfl hinm rfl (by decide +kernel) rfl rfl (Nat.le_of_ble_eq_true rfl) dX1_init_36 (fun H locs hP hD hS => ?_)
  have hP : va_P (dC, dI) vwCl [(g0, .inr (1, [.ref gp, .int 0, .ref gr, .ref gm, .ref gl, .int 0, .null, .int 0, .int 0, .int 0, .null, .int 0, .long 0])), (gp, .inl (cI, 12, .inl (fun _ => 0))), (gr, .inl (cI, 300, .inl (fun _ => 0))), (gm, .inl (cI, 300, .inl (fun _ => 0))), (gl, .inl (cI, 3000, .inl (fun _ => 0)))] H := hP
  have hD : va_D _ [(g0, .inr (1, [.ref gp, .int 0, .ref gr, .ref gm, .ref gl, .int 0, .null, .int 0, .int 0, .int 0, .null, .int 0, .long 0])), (gp, .inl (cI, 12, .inl (fun _ => 0))), (gr, .inl (cI, 300, .inl (fun _ => 0))), (gm, .inl (cI, 300, .inl (fun _ => 0))), (gl, .inl (cI, 3000, .inl (fun _ => 0)))] := hD
  refine lv_aload_n hx hb dX1_init_39 rfl (lv_at hl 0 rfl) ?_
  refine lv_bipush (v := 20) hx hb dX1_init_40 (by decide) ?_
  refine va_newa (atype := .int) hx hb (hts (.arrayClass .int) (by decide +kernel)) (ty := .int) rfl hK hP hD hS hA (N' := 20) (a0 := (20, .inl (fun _ => 0))) (fun _ => rfl) (by decide +kernel) (by decide +kernel) (by decide +kernel) (by decide : 4 + 1 ≤ 6) (by decide +kernel : 3612 + 20 ≤ 3664) dX1_init_42 (fun gw cA H hK9 hP hD hS => ?_)
  obtain rfl : cI = cA := kK_same hK9 (a := 0) (b := 1) (Or.inl ⟨rfl, rfl⟩) rfl
  have hP : va_P (dC, dI) vwCl [(g0, .inr (1, [.ref gp, .int 0, .ref gr, .ref gm, .ref gl, .int 0, .null, .int 0, .int 0, .int 0, .null, .int 0, .long 0])), (gp, .inl (cI, 12, .inl (fun _ => 0))), (gr, .inl (cI, 300, .inl (fun _ => 0))), (gm, .inl (cI, 300, .inl (fun _ => 0))), (gl, .inl (cI, 3000, .inl (fun _ => 0))), (gw, .inl (cI, 20, .inl (fun _ => 0)))] H := hP
  have hD : va_D _ [(g0, .inr (1, [.ref gp, .int 0, .ref gr, .ref gm, .ref gl, .int 0, .null, .int 0, .int 0, .int 0, .null, .int 0, .long 0])), (gp, .inl (cI, 12, .inl (fun _ => 0))), (gr, .inl (cI, 300, .inl (fun _ => 0))), (gm, .inl (cI, 300, .inl (fun _ => 0))), (gl, .inl (cI, 3000, .inl (fun _ => 0))), (gw, .inl (cI, 20, .inl (fun _ => 0)))] := hD
  refine W.widen (k := 5) (n := 3632) (by omega) (by omega) ?_
  refine va_putF (D := (dC, dI)) (ci := 1) (v := .ref gw) (ty := .array .int) (C := RX1) (T := TX1) (N := 13) hx hb hts hin tyX1 tyX1_ok nmX1 hown hK hP hD hS 0 rfl rfl 6 (by decide) (hts (.fieldLink RX1 22 "KindTableModel" "row" "[I") (by decide +kernel)) (fun _ h9 => h9) rfl hinm rfl (by decide +kernel) rfl rfl (Nat.le_of_ble_eq_true rfl) dX1_init_44 (fun H locs hP hD hS => ?_)
  have hP : va_P (dC, dI) vwCl [(g0, .inr (1, [.ref gp, .int 0, .ref gr, .ref gm, .ref gl, .int 0, .ref gw, .int 0, .int 0, .int 0, .null, .int 0, .long 0])), (gp, .inl (cI, 12, .inl (fun _ => 0))), (gr, .inl (cI, 300, .inl (fun _ => 0))), (gm, .inl (cI, 300, .inl (fun _ => 0))), (gl, .inl (cI, 3000, .inl (fun _ => 0))), (gw, .inl (cI, 20, .inl (fun _ => 0)))] H := hP
  have hD : va_D _ [(g0, .inr (1, [.ref gp, .int 0, .ref gr, .ref gm, .ref gl, .int 0, .ref gw, .int 0, .int 0, .int 0, .null, .int 0, .long 0])), (gp, .inl (cI, 12, .inl (fun _ => 0))), (gr, .inl (cI, 300, .inl (fun _ => 0))), (gm, .inl (cI, 300, .inl (fun _ => 0))), (gl, .inl (cI, 3000, .inl (fun _ => 0))), (gw, .inl (cI, 20, .inl (fun _ => 0)))] := hD
  refine lv_aload_n hx hb dX1_init_47 rfl (lv_at hl 0 rfl) ?_
  refine lv_bipush (v := 32) hx hb dX1_init_48 (by decide) ?_
  refine va_newa (atype := .int) hx hb (hts (.arrayClass .int) (by decide +kernel)) (ty := .int) rfl hK hP hD hS hA (N' := 32) (a0 := (32, .inl (fun _ => 0))) (fun _ => rfl) (by decide +kernel) (by decide +kernel) (by decide +kernel) (by decide : 5 + 1 ≤ 6) (by decide +kernel : 3632 + 32 ≤ 3664) dX1_init_50 (fun gn cA H hK9 hP hD hS => ?_)
  obtain rfl : cI = cA := kK_same hK9 (a := 0) (b := 1) (Or.inl ⟨rfl, rfl⟩) rfl
  have hP : va_P (dC, dI) vwCl [(g0, .inr (1, [.ref gp, .int 0, .ref gr, .ref gm, .ref gl, .int 0, .ref gw, .int 0, .int 0, .int 0, .null, .int 0, .long 0])), (gp, .inl (cI, 12, .inl (fun _ => 0))), (gr, .inl (cI, 300, .inl (fun _ => 0))), (gm, .inl (cI, 300, .inl (fun _ => 0))), (gl, .inl (cI, 3000, .inl (fun _ => 0))), (gw, .inl (cI, 20, .inl (fun _ => 0))), (gn, .inl (cI, 32, .inl (fun _ => 0)))] H := hP
  have hD : va_D _ [(g0, .inr (1, [.ref gp, .int 0, .ref gr, .ref gm, .ref gl, .int 0, .ref gw, .int 0, .int 0, .int 0, .null, .int 0, .long 0])), (gp, .inl (cI, 12, .inl (fun _ => 0))), (gr, .inl (cI, 300, .inl (fun _ => 0))), (gm, .inl (cI, 300, .inl (fun _ => 0))), (gl, .inl (cI, 3000, .inl (fun _ => 0))), (gw, .inl (cI, 20, .inl (fun _ => 0))), (gn, .inl (cI, 32, .inl (fun _ => 0)))] := hD
  refine W.widen (k := 6) (n := 3664) (by omega) (by omega) ?_
  refine va_putF (D := (dC, dI)) (ci := 1) (v := .ref gn) (ty := .array .int) (C := RX1) (T := TX1) (N := 13) hx hb hts hin tyX1 tyX1_ok nmX1 hown hK hP hD hS 0 rfl rfl 10 (by decide) (hts (.fieldLink RX1 25 "KindTableModel" "newPlace" "[I") (by decide +kernel)) (fun _ h9 => h9) rfl hinm rfl (by decide +kernel) rfl rfl (Nat.le_of_ble_eq_true rfl) dX1_init_52 (fun H locs hP hD hS => ?_)
  have hP : va_P (dC, dI) vwCl [(g0, .inr (1, [.ref gp, .int 0, .ref gr, .ref gm, .ref gl, .int 0, .ref gw, .int 0, .int 0, .int 0, .ref gn, .int 0, .long 0])), (gp, .inl (cI, 12, .inl (fun _ => 0))), (gr, .inl (cI, 300, .inl (fun _ => 0))), (gm, .inl (cI, 300, .inl (fun _ => 0))), (gl, .inl (cI, 3000, .inl (fun _ => 0))), (gw, .inl (cI, 20, .inl (fun _ => 0))), (gn, .inl (cI, 32, .inl (fun _ => 0)))] H := hP
  have hD : va_D _ [(g0, .inr (1, [.ref gp, .int 0, .ref gr, .ref gm, .ref gl, .int 0, .ref gw, .int 0, .int 0, .int 0, .ref gn, .int 0, .long 0])), (gp, .inl (cI, 12, .inl (fun _ => 0))), (gr, .inl (cI, 300, .inl (fun _ => 0))), (gm, .inl (cI, 300, .inl (fun _ => 0))), (gl, .inl (cI, 3000, .inl (fun _ => 0))), (gw, .inl (cI, 20, .inl (fun _ => 0))), (gn, .inl (cI, 32, .inl (fun _ => 0)))] := hD
  exact W.vret hx hb hr (fun t ht hW => ⟨⟨(gp, gr, gm, gl, gw, gn), rfl, trivial, by rw [ht]; exact hP, hD⟩, hS.F ht⟩) hS.2.2 dX1_init_55
end
