theorem law_c {L i : Nat} (hL : L ≤ 3584) (hi : i ≤ 3591) (c : ¬ nI L - (7 : Int32) < nI i) : i + 7 ≤ L := by
  rw [Int32.lt_iff_toInt_lt, nI_toInt (by omega)] at c
  have e : (nI L - nI 7).toInt = (L : Int) - (7 : Nat) := pk_sub_toInt (by omega) (by omega)
  have e2 : (nI L - (7 : Int32)).toInt = (L : Int) - (7 : Nat) := e
  omega
theorem kArr_int {args : Array Value} {s : State} (h : (Cond.arrayClass .int).before args s = true) : ∃ cA, ArrOfT s cA .int ∧ va_RA s cA .int := by
  obtain ⟨cA, kA, comp, h1, h2, h3⟩ := Cond.arrayClass_spec h
  exact ⟨cA, fun n z => ⟨fun k h => (by cases h), kA, h2, comp, h3⟩, h1⟩
theorem kArr_long {args : Array Value} {s : State} (h : (Cond.arrayClass .long).before args s = true) : ∃ cA, ArrOfT s cA .long ∧ va_RA s cA .long := by
  obtain ⟨cA, kA, comp, h1, h2, h3⟩ := Cond.arrayClass_spec h
  exact ⟨cA, fun n z => ⟨fun k h => (by cases h), kA, h2, comp, h3⟩, h1⟩
theorem kdis {A : Nat → Prop} {w1 w2 : va_W} (h : va_D A (w1 ++ w2)) : (∀ q : Nat, q ∈ w2.map Prod.fst → q ∉ w1.map Prod.fst) ∧ ∀ q : Nat, q ∈ w1.map Prod.fst → q ∉ w2.map Prod.fst := by
  have key : ∀ q : Nat, q ∈ w1.map Prod.fst → q ∈ w2.map Prod.fst → False := by
    intro q h1 h2
    obtain ⟨x, hx, rfl⟩ := List.mem_map.mp h1
    obtain ⟨y, hy, hxy⟩ := List.mem_map.mp h2
    obtain ⟨i, hi⟩ := List.getElem?_of_mem hx
    obtain ⟨j, hj⟩ := List.getElem?_of_mem hy
    have hil : i < w1.length := (List.getElem?_eq_some_iff.mp hi).1
    have := h.1 i (w1.length + j) x y (by rw [List.getElem?_append_left hil]; exact hi) (by rw [List.getElem?_append_right (by omega), Nat.add_sub_cancel_left]; exact hj) hxy.symm
    omega
  exact ⟨fun q h1 h2 => key q h2 h1, fun q h1 h2 => key q h1 h2⟩

set_option maxHeartbeats 8000000 in
set_option maxRecDepth 100000 in
theorem law_loop {p : Program} {l : Launch} {e : Env} {s : State} {m : MethodId} {below : List Frame} {meth : Method} {c : Code} {dC : Nat → ClassId} {dI : Nat → Nat → Nat} {b L : Nat} {xs : Nat → Int32} {h0 qa qr qt g0 gp gr gm gl gw gn : Nat} {cI cJ : ClassId} (C0 : lw_At p s m meth c b L xs) (hdM : ∀ q : Nat, q ∈ [g0, gp, gr, gm, gl, gw, gn] → q ∉ [h0, qa, qr, qt]) (hdX : ∀ q : Nat, q ∈ [h0, qa, qr, qt] → q ∉ [g0, gp, gr, gm, gl, gw, gn]) (hK : va_K (dC, dI) vwCl [(cI, .int), (cJ, .long)] s) (hL : L ≤ 3584) : ∀ (n i : Nat), i ≤ L + 7 → L + 8 ≤ i + n → ∀ (av : Nat → Int32) (nc : Nat) (rv : Nat → Int32) (nr : Nat) (tv : Nat → Int64) (nt : Nat) (pk : Int32) (pn : Int64) (pv : Nat → Int32) (tr : Nat → Int32) (tm : Nat → Int32) (tp : Nat → Int32) (wv : Nat → Int32) (re : Int32) (nm : Nat) (np : Nat → Int32), kRel av nc rv nr tv nt pv tr tm tp wv → ∀ (H : Heap) (locs : List Loc), va_P (dC, dI) vwCl (xW h0 qa qr qt cI cJ av (20 + nc) rv nr tv nt pk pn) H → va_P (dC, dI) vwCl (mW g0 gp gr gm gl gw gn cI pv nc tr tm tp nt wv nr re nm np pk pn) H → va_D (fun q : Nat => s.heap.size ≤ q) (xW h0 qa qr qt cI cJ av (20 + nc) rv nr tv nt pk pn) → va_D (fun q : Nat => s.heap.size ≤ q) (mW g0 gp gr gm gl gw gn cI pv nc tr tm tp nt wv nr re nm np pk pn) → va_S (fun q : Nat => s.heap.size ≤ q) s.heap H locs → ∀ (ls : Array Slot), lv_has ls 4 [(0, .ref b), (1, .ref h0), (2, .ref g0), (3, .int (nI i))] → W p l e room_1 s m #[Value.ref b] below meth c H locs 11 4037 (lw_Z below #[Value.ref b] s) (F0 m 18 ls []) := by
  obtain ⟨hx, hb, hr, hml, hown, hts0, hX, hbl, hlocks, hgv⟩ := id C0
  have hts := fun w h => hts0 w (wsL_law_in w h)
  have hbA : ¬ (fun q : Nat => s.heap.size ≤ q) b := Nat.not_le.mpr hbl
  intro n
  induction n with
  | zero => intro i h1 h2; omega
  | succ n ih =>
    intro i hi hn av nc rv nr tv nt pk pn pv tr tm tp wv re nm np hRel H locs hPX hPM hDX hDM hS ls hl
    refine lv_iload_n hx hb dL_law_18 rfl (lv_at hl 3 rfl) ?_
    refine lv_aload_n hx hb dL_law_19 rfl (lv_at hl 0 rfl) ?_
    refine va_slen hx hb hX hbl hbA hS dL_law_20 ?_
    refine W.eq (g2 := F0 m 21 ls [.int (nI L), .int (nI i)]) rfl ?_
    refine lv_bipush (v := 7) hx hb dL_law_21 (by decide) ?_
    refine lv_isub hx hb dL_law_23 ?_
    refine lv_icmp_gt (tgt := 605) hx hb dL_law_24 (by decide) (fun c24 => ?_) (fun c24 => ?_)
    · refine lv_iconst (v := 1) hx hb dL_law_605 (by decide) ?_
      refine va_forget (fun q hq => hS.2.2 q hq) ?_
      exact lw_ret hx hb hr hlocks dL_law_606
    · have hi7 : i + 7 ≤ L := law_c (by omega) (by omega) c24
      refine lv_aload_n hx hb dL_law_27 rfl (lv_at hl 0 rfl) ?_
      refine lv_iload_n hx hb dL_law_28 rfl (lv_at hl 3 rfl) ?_
      refine va_sld hx hb hX hbl hbA hS (vp_in_nI (by omega) (by omega)) dL_law_29 ?_
      refine kv_topi (y := xs (i)) (by rw [nI_clamp (by omega)]) ?_
      refine lv_bipush (v := 15) hx hb dL_law_30 (by decide) ?_
      refine lv_iand hx hb dL_law_32 ?_
      by_cases c33_0 : ((xs (i)) &&& (15 : Int32)) = (0 : Int32)
      · refine lv_tableIn (tgt := 96) hx hb dL_law_33 (by rw [c33_0]; decide) (by rw [c33_0]; decide) (off := 63) (by rw [c33_0]; decide) (by decide) ?_
        exact law_newClass C0 hdM hdX hK hL hi7 (ih (i + 7) (by omega) (by omega)) hRel hPX hPM hDX hDM hS hl
      by_cases c33_1 : ((xs (i)) &&& (15 : Int32)) = (1 : Int32)
      · refine lv_tableIn (tgt := 119) hx hb dL_law_33 (by rw [c33_1]; decide) (by rw [c33_1]; decide) (off := 86) (by rw [c33_1]; decide) (by decide) ?_
        exact law_below C0 hdM hdX hK hL hi7 (ih (i + 7) (by omega) (by omega)) hRel hPX hPM hDX hDM hS hl
      by_cases c33_2 : ((xs (i)) &&& (15 : Int32)) = (2 : Int32)
      · refine lv_tableIn (tgt := 152) hx hb dL_law_33 (by rw [c33_2]; decide) (by rw [c33_2]; decide) (off := 119) (by rw [c33_2]; decide) (by decide) ?_
        exact law_meet C0 hdM hdX hK hL hi7 (ih (i + 7) (by omega) (by omega)) hRel hPX hPM hDX hDM hS hl
      by_cases c33_3 : ((xs (i)) &&& (15 : Int32)) = (3 : Int32)
      · refine lv_tableIn (tgt := 185) hx hb dL_law_33 (by rw [c33_3]; decide) (by rw [c33_3]; decide) (off := 152) (by rw [c33_3]; decide) (by decide) ?_
        exact law_may C0 hdM hdX hK hL hi7 (ih (i + 7) (by omega) (by omega)) hRel hPX hPM hDX hDM hS hl
      by_cases c33_4 : ((xs (i)) &&& (15 : Int32)) = (4 : Int32)
      · refine lv_tableIn (tgt := 270) hx hb dL_law_33 (by rw [c33_4]; decide) (by rw [c33_4]; decide) (off := 237) (by rw [c33_4]; decide) (by decide) ?_
        exact law_pass C0 hdM hdX hK hL hi7 (ih (i + 7) (by omega) (by omega)) hRel hPX hPM hDX hDM hS hl
      by_cases c33_5 : ((xs (i)) &&& (15 : Int32)) = (5 : Int32)
      · refine lv_tableIn (tgt := 381) hx hb dL_law_33 (by rw [c33_5]; decide) (by rw [c33_5]; decide) (off := 348) (by rw [c33_5]; decide) (by decide) ?_
        exact law_kind C0 hdM hdX hK hL hi7 (ih (i + 7) (by omega) (by omega)) hRel hPX hPM hDX hDM hS hl
      by_cases c33_6 : ((xs (i)) &&& (15 : Int32)) = (6 : Int32)
      · refine lv_tableIn (tgt := 394) hx hb dL_law_33 (by rw [c33_6]; decide) (by rw [c33_6]; decide) (off := 361) (by rw [c33_6]; decide) (by decide) ?_
        exact law_number C0 hdM hdX hK hL hi7 (ih (i + 7) (by omega) (by omega)) hRel hPX hPM hDX hDM hS hl
      by_cases c33_7 : ((xs (i)) &&& (15 : Int32)) = (7 : Int32)
      · refine lv_tableIn (tgt := 408) hx hb dL_law_33 (by rw [c33_7]; decide) (by rw [c33_7]; decide) (off := 375) (by rw [c33_7]; decide) (by decide) ?_
        exact law_put C0 hdM hdX hK hL hi7 (ih (i + 7) (by omega) (by omega)) hRel hPX hPM hDX hDM hS hl
      by_cases c33_8 : ((xs (i)) &&& (15 : Int32)) = (8 : Int32)
      · refine lv_tableIn (tgt := 431) hx hb dL_law_33 (by rw [c33_8]; decide) (by rw [c33_8]; decide) (off := 398) (by rw [c33_8]; decide) (by decide) ?_
        exact law_type C0 hdM hdX hK hL hi7 (ih (i + 7) (by omega) (by omega)) hRel hPX hPM hDX hDM hS hl
      by_cases c33_9 : ((xs (i)) &&& (15 : Int32)) = (9 : Int32)
      · refine lv_tableIn (tgt := 454) hx hb dL_law_33 (by rw [c33_9]; decide) (by rw [c33_9]; decide) (off := 421) (by rw [c33_9]; decide) (by decide) ?_
        exact law_typeAbout C0 hdM hdX hK hL hi7 (ih (i + 7) (by omega) (by omega)) hRel hPX hPM hDX hDM hS hl
      by_cases c33_10 : ((xs (i)) &&& (15 : Int32)) = (10 : Int32)
      · refine lv_tableIn (tgt := 487) hx hb dL_law_33 (by rw [c33_10]; decide) (by rw [c33_10]; decide) (off := 454) (by rw [c33_10]; decide) (by decide) ?_
        exact law_mayBe C0 hdM hdX hK hL hi7 (ih (i + 7) (by omega) (by omega)) hRel hPX hPM hDX hDM hS hl
      by_cases c33_11 : ((xs (i)) &&& (15 : Int32)) = (11 : Int32)
      · refine lv_tableIn (tgt := 546) hx hb dL_law_33 (by rw [c33_11]; decide) (by rw [c33_11]; decide) (off := 513) (by rw [c33_11]; decide) (by decide) ?_
        exact law_changed C0 hdM hdX hK hL hi7 (ih (i + 7) (by omega) (by omega)) hRel hPX hPM hDX hDM hS hl
      refine lv_tableOut (tgt := 599) hx hb dL_law_33 (by have h0 := lv_neT c33_0 (a := 0) (by decide); have h1 := lv_neT c33_1 (a := 1) (by decide); have h2 := lv_neT c33_2 (a := 2) (by decide); have h3 := lv_neT c33_3 (a := 3) (by decide); have h4 := lv_neT c33_4 (a := 4) (by decide); have h5 := lv_neT c33_5 (a := 5) (by decide); have h6 := lv_neT c33_6 (a := 6) (by decide); have h7 := lv_neT c33_7 (a := 7) (by decide); have h8 := lv_neT c33_8 (a := 8) (by decide); have h9 := lv_neT c33_9 (a := 9) (by decide); have h10 := lv_neT c33_10 (a := 10) (by decide); have h11 := lv_neT c33_11 (a := 11) (by decide); omega) (by decide) ?_
      refine lv_iinc (v := nI (i + 7)) (lv' := [(3, .int (nI (i + 7))), (0, .ref b), (1, .ref h0), (2, .ref g0)]) hx hb dL_law_599 hl (k := 3) rfl (nI_add i 7) (by decide) rfl (fun ls hl => ?_)
      refine lv_goto (tgt := 18) hx hb dL_law_602 (by decide) ?_
      exact ih (i + 7) (by omega) (by omega) _ _ _ _ _ _ _ _ _ _ _ _ _ _ _ _ hRel H locs hPX hPM hDX hDM hS ls (lv_sub hl [1, 2, 3, 0] rfl)
set_option maxHeartbeats 8000000 in
set_option maxRecDepth 100000 in
/-- THE LAW, from its entry -/
theorem whole_start {p : Program} {e : Env} {s : State} {m : MethodId} {below : List Frame} {meth : Method} {c : Code} (l : Launch) {b L : Nat} {xs : Nat → Int32} (hL : L ≤ 3584) (C0 : lw_At p s m meth c b L xs) : W p l e room_1 s m #[Value.ref b] below meth c s.heap [] 0 0 (lw_Z below #[Value.ref b] s) (entryFrame m ([Value.ref b] : List Value).toArray 4) := by
  obtain ⟨hx, hb, hr, hml, hown, hts0, hX, hbl, hlocks, hgv⟩ := id C0
  have hts := fun w h => hts0 w (wsL_law_in w h)
  have hA : ∀ q : Nat, s.heap.size ≤ q → (fun q : Nat => s.heap.size ≤ q) q := fun _ h => h
  obtain ⟨c0, iS0, hKn0⟩ := u_known (C := RX0) (T := TX0) (N := 8) (n := 8) hts0 inX0 (hts (.instantiable RX0 8) (by decide +kernel))
  obtain ⟨c1, iS1, hKn1⟩ := u_known (C := RX1) (T := TX1) (N := 13) (n := 13) hts0 inX1 (hts (.instantiable RX1 13) (by decide +kernel))
  obtain ⟨cI, hcI⟩ := kArr_int (hts (.arrayClass .int) (by decide +kernel))
  obtain ⟨cJ, hcJ⟩ := kArr_long (hts (.arrayClass .long) (by decide +kernel))
  obtain ⟨dC, dI, hKc0⟩ : ∃ (dC : Nat → ClassId) (dI : Nat → Nat → Nat), ∀ (k : Nat) (q : vw_C), vwCl[k]? = some q → u_Kn s q.1 q.2.1 q.2.2 (dC k) (dI k) := by
    refine ⟨fun k => if k = 0 then c0 else c1, fun k => if k = 0 then iS0 else iS1, ?_⟩
    intro k q hq
    match k, hq with
    | 0, hq => cases hq; exact hKn0
    | 1, hq => cases hq; exact hKn1
    | k + 2, hq => simp [vwCl] at hq
  have hS : va_S (fun q : Nat => s.heap.size ≤ q) s.heap s.heap [] := va_S.rf
  have hK : va_K (dC, dI) vwCl [(cI, .int), (cJ, .long)] s := by
    refine ⟨hKc0, fun k q hq => ?_⟩
    match k, hq with
    | 0, hq => cases hq; exact hcI
    | 1, hq => cases hq; exact hcJ
    | k + 2, hq => simp at hq
  have hKm : va_K (dC, dI) vwCl [(cI, .int)] s := hK.sub [0] rfl
  have hP : va_P (dC, dI) vwCl [] s.heap := fun k q h => by simp at h
  have hD : va_D (fun q : Nat => s.heap.size ≤ q) [] := ⟨fun i j p q h => by simp at h, fun k q h => by simp at h⟩
  have hl := lv_entry ([.ref b]) (n := 4) (Nat.le_of_ble_eq_true rfl)
  rw [lg_entry_eq]
  generalize (lg_sl ([.ref b]) ++ List.replicate (4 - (lg_sl ([.ref b])).length) Slot.unset).toArray = ls at hl ⊢
  have hl : lv_has ls 4 [(0, .ref b)] := hl
  refine va_new (ci := 0) (fs := [.null, .int 0, .null, .int 0, .null, .int 0, .int 0, .long 0]) (C := RX0) (T := TX0) (N := 8) hx hb hts0 inX0 tyX0 tyX0_ok hown (hts (.classLink RL 7 RX0) (by decide +kernel)) (hts (.instantiable RX0 8) (by decide +kernel)) (hts (.initialized RX0) (by decide +kernel)) hK hP hD hS hA rfl (fun j hj => by rcases (show j = 0 ∨ j = 1 ∨ j = 2 ∨ j = 3 ∨ j = 4 ∨ j = 5 ∨ j = 6 ∨ j = 7 by omega) with rfl | rfl | rfl | rfl | rfl | rfl | rfl | rfl <;> rfl) (by decide : 0 + 1 ≤ 11) (by decide +kernel : 0 + 8 ≤ 4037) dL_law_0 (fun h0 H hP hD hS => ?_)
  have hP : va_P (dC, dI) vwCl [(h0, .inr (0, [.null, .int 0, .null, .int 0, .null, .int 0, .int 0, .long 0]))] H := hP
  have hD : va_D (fun q : Nat => s.heap.size ≤ q) [(h0, .inr (0, [.null, .int 0, .null, .int 0, .null, .int 0, .int 0, .long 0]))] := hD
  refine W.widen (k := 1) (n := 8) (by omega) (by omega) ?_
  refine lv_dup hx hb dL_law_3 rfl ?_
  have hPc := hP.sub (ws' := [(h0, .inr (0, [.null, .int 0, .null, .int 0, .null, .int 0, .int 0, .long 0]))]) [0] rfl
  have hDc := hD.sub (ws' := [(h0, .inr (0, [.null, .int 0, .null, .int 0, .null, .int 0, .int 0, .long 0]))]) [0] (by decide) rfl
  have hFc := va_free (wc := [(h0, .inr (0, [.null, .int 0, .null, .int 0, .null, .int 0, .int 0, .long 0]))]) hD hS hA [0] rfl
  refine va_callv (va_runI (As := []) (rest := [.ref h0]) ⟨hx, hb, hml, hown, hts⟩ (cX_init l dC dI cI cJ h0 H.size) (cwI 0 hts gL_law_X0_init rfl rfl rfl (hts (.initialized RX0) (by decide +kernel)) (hts (.methodLink RL 9 yX0_init) (by decide +kernel)) (hts (.instanceMethod yX0_init) (by decide +kernel)) rfl (by decide +kernel) ⟨(Nat.le_of_ble_eq_true rfl), (Nat.le_of_ble_eq_true rfl)⟩) ⟨fun a U g mk q => by obtain ⟨q0, q1, qP, qK, qD⟩ := q; exact ⟨q0, q1, qP, va_K.moved (u := U) (U := U.calling g mk a) (Vm.Alike.refl U.vm) qK, qD⟩, fun U hU hW => ⟨rfl, by rw [hU], by rw [hU]; exact hPc, va_K.moved hW.alike hK, hDc.weaken (fun _ _ _ _ => trivial)⟩⟩ rfl rfl hl.1 rfl (lv_room (Nat.le_of_ble_eq_true rfl)) dL_law_4 ⟨(by decide : 1 + 3 ≤ 11), (by decide +kernel : 8 + 352 ≤ 4037)⟩) hS (fun q _ h => hFc q h) hFc (fun ux t H1 locs ht hvm hw hB hz1 hk1 hS => ?_)
  obtain ⟨hP1, hD1⟩ := hB
  rw [ht] at hP1
  obtain ⟨hP, hD⟩ := va_join (wr := []) (w1 := (xW h0 ux.1 ux.2.1 ux.2.2 cI cJ (iA 20) 20 (fun _ => 0) 0 (fun _ => 0) 0 0 0)) hP hD [0] [] rfl rfl (by decide) (by decide) hk1 hFc hP1 hD1
  generalize H1 = H at hP hS ⊢
  have hP : va_P (dC, dI) vwCl (xW h0 ux.1 ux.2.1 ux.2.2 cI cJ (iA 20) 20 (fun _ => 0) 0 (fun _ => 0) 0 0 0) H := hP
  have hD : va_D (fun q : Nat => s.heap.size ≤ q) (xW h0 ux.1 ux.2.1 ux.2.2 cI cJ (iA 20) 20 (fun _ => 0) 0 (fun _ => 0) 0 0 0) := hD
  refine W.widen (k := 4) (n := 360) (by omega) (by omega) ?_
  refine lv_astore_n (lv' := [(1, .ref h0), (0, .ref b)]) hx hb dL_law_7 rfl hl (by decide) rfl (fun ls hl => ?_)
  refine va_new (ci := 1) (fs := [.null, .int 0, .null, .null, .null, .int 0, .null, .int 0, .int 0, .int 0, .null, .int 0, .long 0]) (C := RX1) (T := TX1) (N := 13) hx hb hts0 inX1 tyX1 tyX1_ok hown (hts (.classLink RL 10 RX1) (by decide +kernel)) (hts (.instantiable RX1 13) (by decide +kernel)) (hts (.initialized RX1) (by decide +kernel)) hK hP hD hS hA rfl (fun j hj => by rcases (show j = 0 ∨ j = 1 ∨ j = 2 ∨ j = 3 ∨ j = 4 ∨ j = 5 ∨ j = 6 ∨ j = 7 ∨ j = 8 ∨ j = 9 ∨ j = 10 ∨ j = 11 ∨ j = 12 by omega) with rfl | rfl | rfl | rfl | rfl | rfl | rfl | rfl | rfl | rfl | rfl | rfl | rfl <;> rfl) (by decide : 4 + 1 ≤ 11) (by decide +kernel : 360 + 13 ≤ 4037) dL_law_8 (fun g0 H hP hD hS => ?_)
  have hP : va_P (dC, dI) vwCl ((xW h0 ux.1 ux.2.1 ux.2.2 cI cJ (iA 20) 20 (fun _ => 0) 0 (fun _ => 0) 0 0 0) ++ [(g0, .inr (1, [.null, .int 0, .null, .null, .null, .int 0, .null, .int 0, .int 0, .int 0, .null, .int 0, .long 0]))]) H := hP
  have hD : va_D (fun q : Nat => s.heap.size ≤ q) ((xW h0 ux.1 ux.2.1 ux.2.2 cI cJ (iA 20) 20 (fun _ => 0) 0 (fun _ => 0) 0 0 0) ++ [(g0, .inr (1, [.null, .int 0, .null, .null, .null, .int 0, .null, .int 0, .int 0, .int 0, .null, .int 0, .long 0]))]) := hD
  refine W.widen (k := 5) (n := 373) (by omega) (by omega) ?_
  refine lv_dup hx hb dL_law_11 rfl ?_
  have hPc := hP.sub (ws' := [(g0, .inr (1, [.null, .int 0, .null, .null, .null, .int 0, .null, .int 0, .int 0, .int 0, .null, .int 0, .long 0]))]) [4] rfl
  have hDc := hD.sub (ws' := [(g0, .inr (1, [.null, .int 0, .null, .null, .null, .int 0, .null, .int 0, .int 0, .int 0, .null, .int 0, .long 0]))]) [4] (by decide) rfl
  have hFc := va_free (wc := [(g0, .inr (1, [.null, .int 0, .null, .null, .null, .int 0, .null, .int 0, .int 0, .int 0, .null, .int 0, .long 0]))]) hD hS hA [4] rfl
  refine va_callv (va_runI (As := []) (rest := [.ref g0]) ⟨hx, hb, hml, hown, hts⟩ (cM_init l dC dI cI g0 H.size) (cwI 0 hts gL_law_X1_init rfl rfl rfl (hts (.initialized RX1) (by decide +kernel)) (hts (.methodLink RL 12 yX1_init) (by decide +kernel)) (hts (.instanceMethod yX1_init) (by decide +kernel)) rfl (by decide +kernel) ⟨(Nat.le_of_ble_eq_true rfl), (Nat.le_of_ble_eq_true rfl)⟩) ⟨fun a U g mk q => by obtain ⟨q0, q1, qP, qK, qD⟩ := q; exact ⟨q0, q1, qP, va_K.moved (u := U) (U := U.calling g mk a) (Vm.Alike.refl U.vm) qK, qD⟩, fun U hU hW => ⟨rfl, by rw [hU], by rw [hU]; exact hPc, va_K.moved hW.alike hKm, hDc.weaken (fun _ _ _ _ => trivial)⟩⟩ rfl rfl hl.1 rfl (lv_room (Nat.le_of_ble_eq_true rfl)) dL_law_12 ⟨(by decide : 5 + 6 ≤ 11), (by decide +kernel : 373 + 3664 ≤ 4037)⟩) hS (fun q _ h => hFc q h) hFc (fun um t H1 locs ht hvm hw hB hz1 hk1 hS => ?_)
  obtain ⟨hP1, hD1⟩ := hB
  rw [ht] at hP1
  obtain ⟨hP, hD⟩ := va_join (wr := (xW h0 ux.1 ux.2.1 ux.2.2 cI cJ (iA 20) 20 (fun _ => 0) 0 (fun _ => 0) 0 0 0)) (w1 := (mW g0 um.1 um.2.1 um.2.2.1 um.2.2.2.1 um.2.2.2.2.1 um.2.2.2.2.2 cI (fun _ => 0) 0 (fun _ => 0) (fun _ => 0) (fun _ => 0) 0 (fun _ => 0) 0 0 0 (fun _ => 0) 0 0)) hP hD [4] [0, 1, 2, 3] rfl rfl (by decide) (by decide) hk1 hFc hP1 hD1
  generalize H1 = H at hP hS ⊢
  have hPX : va_P (dC, dI) vwCl (xW h0 ux.1 ux.2.1 ux.2.2 cI cJ (iA 20) 20 (fun _ => 0) 0 (fun _ => 0) 0 0 0) H := hP.sub [0, 1, 2, 3] rfl
  have hPM : va_P (dC, dI) vwCl (mW g0 um.1 um.2.1 um.2.2.1 um.2.2.2.1 um.2.2.2.2.1 um.2.2.2.2.2 cI (fun _ => 0) 0 (fun _ => 0) (fun _ => 0) (fun _ => 0) 0 (fun _ => 0) 0 0 0 (fun _ => 0) 0 0) H := hP.sub [4, 5, 6, 7, 8, 9, 10] rfl
  have hDX : va_D (fun q : Nat => s.heap.size ≤ q) (xW h0 ux.1 ux.2.1 ux.2.2 cI cJ (iA 20) 20 (fun _ => 0) 0 (fun _ => 0) 0 0 0) := hD.sub [0, 1, 2, 3] (by decide) rfl
  have hDM : va_D (fun q : Nat => s.heap.size ≤ q) (mW g0 um.1 um.2.1 um.2.2.1 um.2.2.2.1 um.2.2.2.2.1 um.2.2.2.2.2 cI (fun _ => 0) 0 (fun _ => 0) (fun _ => 0) (fun _ => 0) 0 (fun _ => 0) 0 0 0 (fun _ => 0) 0 0) := hD.sub [4, 5, 6, 7, 8, 9, 10] (by decide) rfl
  have hdM := (kdis hD).1
  have hdX := (kdis hD).2
  refine W.widen (k := 11) (n := 4037) (by omega) (by omega) ?_
  refine lv_astore_n (lv' := [(2, .ref g0), (1, .ref h0), (0, .ref b)]) hx hb dL_law_15 rfl hl (by decide) rfl (fun ls hl => ?_)
  refine lv_iconst (v := 0) hx hb dL_law_16 (by decide) ?_
  refine lv_istore_n (lv' := [(3, .int 0), (2, .ref g0), (1, .ref h0), (0, .ref b)]) hx hb dL_law_17 rfl hl (by decide) rfl (fun ls hl => ?_)
  exact law_loop C0 hdM hdX hK hL (L + 8) 0 (by omega) (by omega) (iA 20) 0 (fun _ => 0) 0 (fun _ => 0) 0 0 0 (fun _ => 0) (fun _ => 0) (fun _ => 0) (fun _ => 0) (fun _ => 0) 0 0 (fun _ => 0) kRel_0 H _ hPX hPM hDX hDM hS ls (lv_sub hl [3, 2, 1, 0] rfl)
-- ===== YOUR PART ENDS =====
set_option maxHeartbeats 4000000 in
theorem lw_walk (l : Launch) (b : Addr) (xs : List Int32) : MetFree l x (headSpec (Jvm.Cond.code x code maxLocals ret :: tables_1) room_1) (lw_P b xs) (fun _ _ _ _ _ => True) lw_Q := by
  refine MetFree.of_bodyS (code := code) (maxLocals := maxLocals) (ret := ret) (by decide) ?_ ?_
  · intro args s m h hn
    obtain ⟨meth, c, h1, h2, h3, h4, h5, h6, -, -⟩ := Cond.code_spec hn (atoms_spec (ws := Jvm.Cond.code x code maxLocals ret :: tables_1) h _ List.mem_cons_self)
    exact ⟨meth, c, h1, h2, h3, h4, h5, h6⟩
  · intro p e s m args below meth c s₁ B hml0 hP _
    obtain ⟨rfl, hx, hbd, hgv⟩ := hP
    obtain ⟨scr, harrAt, hlist, hof, hsmall⟩ := hx
    obtain ⟨hcb, hkn, -, -⟩ := State.arrayAt?_spec harrAt
    have hown : s.vm.findClass R_law = some m.cls := findClass_of_methodNamed B.named
    have hts0 : ∀ c ∈ (Jvm.Cond.code x code maxLocals ret :: tables_1), c.before #[Value.ref b] s = true := atoms_spec (ws := Jvm.Cond.code x code maxLocals ret :: tables_1) B.pre
    have hts : ∀ w ∈ lw_tbl, w.before #[Value.ref b] s = true := k2_hts_sels lw_privs (fun w hw => hts0 w (List.mem_cons_of_mem _ hw)) lw_privs_ok
    have hml : c.maxLocals = 4 := B.maxLocals_eq (hts0 _ List.mem_cons_self)
    have X₀ : Stand p l e room_1 s m #[Value.ref b] below meth c s₁ [] 0 0 := Stand.of_body B
    have hh0 : s₁.heap = s.heap := by rw [B.state]; rfl
    have hsz : scr.slots.size = xs.length := by rw [← Array.length_toList, hlist, List.length_map]
    have hval : ∀ j : Nat, j < xs.length → scr.slots[j]? = some (.int (xs.getD j 0)) := fun j hj => by
      rw [← Array.getElem?_toList, hlist]
      simp [hj]
    have hbl : b < s.heap.size := (Array.getElem?_eq_some_iff.mp hcb).1
    have hX : va_X b xs.length (fun j => xs.getD j 0) s s.heap := ⟨scr, hcb, hof, hkn, hsz, hval⟩
    have K : W p l e room_1 s m #[Value.ref b] below meth c s₁.heap [] 0 0 (lw_Z below #[Value.ref b] s) (entryFrame m ([Value.ref b] : List Value).toArray 4) := by
      rw [hh0]
      exact whole_start l hbd ⟨B.exec, B.bytes, B.returns, hml, hown, hts, hX, hbl, B.notSynchronized, hgv⟩
    obtain ⟨t, a1, o, b1, b2, b3⟩ := K s₁ rfl X₀
    exact ⟨t, o, a1, b1, b2, b3⟩
theorem lw_pre_spec {args : Array Value} {s : State} (h : (Jvm.Cond.and given_1 narrow_1).before args s = true) (hr : rest_1_c.before args s = true) : ∃ (b : Addr) (xs : List Int32), lw_P b xs args s := by
  have hs := flat_of_before _ h
  have hq := flat_of_before _ hr
  have hc : (Cond.count 1).before args s = true := hs _ (by decide +kernel)
  have harr : (Cond.arrayOf (.arg 0) .int).before args s = true := hs _ (by decide +kernel)
  have hle : (Cond.le (.length (.arg 0)) (.int 3584)).before args s = true := hs _ (by decide +kernel)
  have hlen : (Cond.isInt (.length (.arg 0))).before args s = true := hq _ (by decide +kernel)
  have hall : (Cond.all (.arg 0) (.isInt (.elem (.arg 0) (.index 0)))).before args s = true := hq _ (by decide +kernel)
  obtain ⟨b, xs, hb, hx⟩ := State.ints_of_pre rfl harr hlen hall
  have hsm : xs.length < 2 ^ 31 := hx.choose_spec.2.2.2
  have hev : (Term.length (.arg 0)).eval args s none [] s = some (.int xs.length.toInt32) := hx.length_eval hb
  have hv := Cond.le_ints hev (show (Term.int 3584).eval args s none [] s = some (.int 3584) from rfl)
  have hd : xs.length.toInt32 ≤ 3584 := by
    simpa [Cond.before, Cond.holds, hv] using hle
  have hN : xs.length ≤ 3584 := (Int32.ofNat_le_ofNat hsm (by decide)).mp (show Int32.ofNat xs.length ≤ Int32.ofNat 3584 from hd)
  exact ⟨b, xs, Cond.one_arg hc (show args[0]? = some (.ref b) from hb), hx, hN, h⟩
theorem lw_comes (l : Launch) : Comes l x (Jvm.Cond.code x code maxLocals ret :: tables_1) room_1 (fun tb e args s => Calls_1 tb e args s ∧ rest_1 tb e args s ∧ Pre_1 tb e args s)
    (fun _ _ args s o t => lw_Q args s o t) := by
  intro p e ha hc hk s m args below hf hfit hheap happ hpre
  obtain ⟨b, xs, hP⟩ := lw_pre_spec hpre.2.2 hpre.2.1
  obtain ⟨k, o, h1, h2, h3, hQ⟩ := lw_walk l b xs p e ha hc hk s m args below hf ((Spec.applies_iff_loose hf).mp happ).1 hP trivial
  exact ⟨k, o, h1, h2, h3, hQ⟩
theorem lw_frame {s t : State} {o : Outcome} {args : Array Value} (h : Framed s o t [] 11 4037) :
    Framed s o t (fieldLocs frame_1_writes args s ++ arrayLocs frame_1_arrays args s ++ staticLocs frame_1_statics s) 11 4037 := h
theorem lw_limb (L : Cond) (hL : ∀ (args : Array Value) (s t : State), L.after args s (.returned (some (.int 1))) t = true) :
    ArmFor flags0 classFile x code maxLocals ret World_1 tables_1 room_1 Calls_1 rest_1 Pre_1
      (fun tb e a s o t => postC L tb e a s o t ∧ Framed s o t (fieldLocs frame_1_writes a s ++ arrayLocs frame_1_arrays a s ++ staticLocs frame_1_statics s) 11 4037) := by
  intro l _ _ _ p e ha hc hk s m args below hf hfit hheap happ hpre
  obtain ⟨k, o, h1, h2, h3, rfl, hF⟩ := lw_comes l p e ha hc hk s m args below hf hfit hheap happ hpre
  exact ⟨k, _, h1, h2, h3, hL args s _, lw_frame hF⟩
theorem i_vc : Claimed_1_1 ∧ Claimed_1_2 := ⟨lw_limb limb_1_1 (fun args s t => by simp [limb_1_1, Cond.after, Cond.holds, Cond.value]), lw_limb limb_1_2 (fun args s t => Cond.after_iff.mpr (by
  first | (rw [show limb_1_2 = Cond.eq .result (.int 1) from rfl, Cond.eq_ints (x := 1) (y := 1) rfl rfl]; simp; done) | (simp [limb_1_2, Cond.value, Term.eval]; done)))⟩
