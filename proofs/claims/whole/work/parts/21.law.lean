-- ===== end of PART A; then your names; then what follows =====
/-! THE CLAIM OUT OF ONE WALK OF THE LAW'S BODY. Your part is whole_start (and what it stands on); all else here is the same for every law, but numbers. -/
def R_law : String := "KindTableLaw"
def lw_P (b : Addr) (xs : List Int32) (args : Array Value) (s : State) : Prop := args = #[.ref b] ∧ s.IntsAt b xs ∧ xs.length ≤ 3584 ∧ (Jvm.Cond.and given_1 narrow_1).before args s = true
def lw_Q (_ : Array Value) (s : State) (o : Outcome) (t : State) : Prop := o = .returned (some (.int 1)) ∧ Framed s o t [] 11 4037
def lw_Z (below : List Frame) (a : Array Value) (s : State) : State → Prop := fun t => ∃ o, t.status = .running ∧ Ended t below o ∧ lw_Q a s o t
/-- the law's own end, with 1 on the stack, nothing written that was there before, its room as the claim has it -/
theorem lw_ret {p : Program} {l : Launch} {e : Env} {s : State} {m : MethodId} {below : List Frame} {meth : Method} {c : Code} {b : Nat} (hx : p.tables.exec = Jvm.exec) (hb : c.code = code) (hr : meth.sig.returnType = ret) (hlocks : meth.locks = false) {pc : Nat} {H : Heap} {ls : Array Slot} (hdg : decode code pc = .ok (.ireturn, 1)) : W p l e room_1 s m #[Value.ref b] below meth c H [] 11 4037 (lw_Z below #[Value.ref b] s) (F0 m pc ls [.int 1]) := by
  intro T hT X
  obtain ⟨fs, hret, hrun, hended, hW, hframe⟩ := X.leave (v := some (.int 1)) (hlocks := hlocks) (fun h => by rw [hr] at h; cases h)
  have hmeth' : T.vm.method? m = some meth := X.method'
  refine ⟨T.setFrames fs, ?_, .returned (some (.int 1)), hrun, hended, rfl, ⟨_, rfl⟩, hW, hframe⟩
  jvm_step X.here [X.here.top, hx, hb, hdg, hmeth', hr, ret, narrow_b1]
  (try refine ⟨rfl, ?_⟩); (try refine ⟨rfl, ?_⟩)
  first | (intro acts; rw [hret _ acts rfl rfl rfl]) | rw [hret _ _ rfl rfl rfl]
  exact Steps.refl _
/-- what holds at the law's entry: the machine, the code, the tables' words (any of lw_tbl by 'hts w (by decide +kernel)'), the script of L ints xs at the cell b, what the Statement gives of the start (any of its parts by flat_of_before) -/
def lw_At (p : Program) (s : State) (m : MethodId) (meth : Method) (c : Code) (b L : Nat) (xs : Nat → Int32) : Prop :=
  p.tables.exec = Jvm.exec ∧ c.code = code ∧ meth.sig.returnType = ret ∧ c.maxLocals = 4 ∧ s.vm.findClass R_law = some m.cls ∧ (∀ w ∈ lw_tbl, w.before #[Value.ref b] s = true) ∧ va_X b L xs s s.heap ∧ b < s.heap.size ∧ meth.locks = false ∧ (Jvm.Cond.and given_1 narrow_1).before #[Value.ref b] s = true
set_option maxHeartbeats 8000000 in
set_option maxRecDepth 100000 in
theorem law_newClass {p : Program} {l : Launch} {e : Env} {s : State} {m : MethodId} {below : List Frame} {meth : Method} {c : Code} {dC : Nat → ClassId} {dI : Nat → Nat → Nat} {b L : Nat} {xs : Nat → Int32} {h0 qa qr qt g0 gp gr gm gl gw gn : Nat} {cI cJ : ClassId} (C0 : lw_At p s m meth c b L xs) (hdM : ∀ q : Nat, q ∈ [g0, gp, gr, gm, gl, gw, gn] → q ∉ [h0, qa, qr, qt]) (hdX : ∀ q : Nat, q ∈ [h0, qa, qr, qt] → q ∉ [g0, gp, gr, gm, gl, gw, gn]) (hK : va_K (dC, dI) vwCl [(cI, .int), (cJ, .long)] s) (hL : L ≤ 3584) {i : Nat} (hi7 : i + 7 ≤ L) (ih : ∀ (av : Nat → Int32) (nc : Nat) (rv : Nat → Int32) (nr : Nat) (tv : Nat → Int64) (nt : Nat) (pk : Int32) (pn : Int64) (pv : Nat → Int32) (tr : Nat → Int32) (tm : Nat → Int32) (tp : Nat → Int32) (wv : Nat → Int32) (re : Int32) (nm : Nat) (np : Nat → Int32), kRel av nc rv nr tv nt pv tr tm tp wv → ∀ (H : Heap) (locs : List Loc), va_P (dC, dI) vwCl (xW h0 qa qr qt cI cJ av (20 + nc) rv nr tv nt pk pn) H → va_P (dC, dI) vwCl (mW g0 gp gr gm gl gw gn cI pv nc tr tm tp nt wv nr re nm np pk pn) H → va_D (fun q : Nat => s.heap.size ≤ q) (xW h0 qa qr qt cI cJ av (20 + nc) rv nr tv nt pk pn) → va_D (fun q : Nat => s.heap.size ≤ q) (mW g0 gp gr gm gl gw gn cI pv nc tr tm tp nt wv nr re nm np pk pn) → va_S (fun q : Nat => s.heap.size ≤ q) s.heap H locs → ∀ (ls : Array Slot), lv_has ls 4 [(0, .ref b), (1, .ref h0), (2, .ref g0), (3, .int (nI (i + 7)))] → W p l e room_1 s m #[Value.ref b] below meth c H locs 11 4037 (lw_Z below #[Value.ref b] s) (F0 m 18 ls [])) {av : Nat → Int32} {nc : Nat} {rv : Nat → Int32} {nr : Nat} {tv : Nat → Int64} {nt : Nat} {pk : Int32} {pn : Int64} {pv : Nat → Int32} {tr : Nat → Int32} {tm : Nat → Int32} {tp : Nat → Int32} {wv : Nat → Int32} {re : Int32} {nm : Nat} {np : Nat → Int32} (hRel : kRel av nc rv nr tv nt pv tr tm tp wv) {H : Heap} {locs : List Loc} (hPX : va_P (dC, dI) vwCl (xW h0 qa qr qt cI cJ av (20 + nc) rv nr tv nt pk pn) H) (hPM : va_P (dC, dI) vwCl (mW g0 gp gr gm gl gw gn cI pv nc tr tm tp nt wv nr re nm np pk pn) H) (hDX : va_D (fun q : Nat => s.heap.size ≤ q) (xW h0 qa qr qt cI cJ av (20 + nc) rv nr tv nt pk pn)) (hDM : va_D (fun q : Nat => s.heap.size ≤ q) (mW g0 gp gr gm gl gw gn cI pv nc tr tm tp nt wv nr re nm np pk pn)) (hS : va_S (fun q : Nat => s.heap.size ≤ q) s.heap H locs) {ls : Array Slot} (hl : lv_has ls 4 [(0, .ref b), (1, .ref h0), (2, .ref g0), (3, .int (nI i))]) : W p l e room_1 s m #[Value.ref b] below meth c H locs 11 4037 (lw_Z below #[Value.ref b] s) (F0 m 96 ls []) := by
  obtain ⟨hx, hb, hr, hml, hown, hts0, hX, hbl, hlocks, hgv⟩ := C0
  have hts := fun w h => hts0 w (wsL_law_in w h)
  have hA : ∀ q : Nat, s.heap.size ≤ q → (fun q : Nat => s.heap.size ≤ q) q := fun _ h => h
  have hbA : ¬ (fun q : Nat => s.heap.size ≤ q) b := Nat.not_le.mpr hbl
  have hKm : va_K (dC, dI) vwCl [(cI, .int)] s := hK.sub [0] rfl
  obtain ⟨bl, pr, tR, tM, tP, hI⟩ := hRel
  obtain ⟨hnc, hAV, hBL, hPV, hnr, hrw, hnt, hTY⟩ := id hI
  have hnk : 20 ≤ 20 + nc ∧ 20 + nc ≤ 32 := ⟨by omega, by omega⟩
  have hnw := hnr
  have hmt := hnt
  have hTM : kTM tm tM nt := kTY_TM hTY
  have hTP : kTP tr tp tM nt := kTY_TP hnc hTY
  refine lv_aload_n hx hb dL_law_96 rfl (lv_at hl 1 rfl) ?_
  refine lv_aload_n hx hb dL_law_97 rfl (lv_at hl 0 rfl) ?_
  refine lv_iload_n hx hb dL_law_98 rfl (lv_at hl 3 rfl) ?_
  refine lv_iconst (v := 1) hx hb dL_law_99 (by decide) ?_
  refine lv_iadd hx hb dL_law_100 ?_
  refine kv_topi (y := nI (i + 1)) (nI_add i 1) ?_
  refine va_sld hx hb hX hbl hbA hS (vp_in_nI (by omega) (by omega)) dL_law_101 ?_
  refine kv_topi (y := xs (i + 1)) (by rw [nI_clamp (by omega)]) ?_
  refine kc_W [.int (xs (i + 1))] [] ⟨hx, hb, hml, hown, hts⟩ (cX_newClass l dC dI h0 qa qr qt cI cJ av (20 + nc) rv nr tv nt pk pn (xs (i + 1)) hnk) (cwV 1 hts gL_law_X0_newClass rfl rfl rfl (by decide +kernel) ⟨(Nat.le_of_ble_eq_true rfl), (Nat.le_of_ble_eq_true rfl)⟩) hPX hK hDX hS rfl (ci := 0) (q0 := 0) rfl rfl rfl rfl hl.1 rfl (Nat.le_of_ble_eq_true rfl) dL_law_102 ⟨(Nat.le_of_ble_eq_true rfl), (Nat.le_of_ble_eq_true rfl)⟩ (fun H locs hP1 hS hk1 => ?_)
  have hPM : va_P (dC, dI) vwCl (mW g0 gp gr gm gl gw gn cI pv nc tr tm tp nt wv nr re nm np pk pn) H := kP_kept hPM rfl hdM hk1
  have hPX : va_P (dC, dI) vwCl (xW h0 qa qr qt cI cJ ((fX_newClass av (20 + nc) (xs (i + 1))).2.1) ((fX_newClass av (20 + nc) (xs (i + 1))).2.2) rv nr tv nt pk pn) H := hP1
  have hDX : va_D (fun q : Nat => s.heap.size ≤ q) (xW h0 qa qr qt cI cJ ((fX_newClass av (20 + nc) (xs (i + 1))).2.1) ((fX_newClass av (20 + nc) (xs (i + 1))).2.2) rv nr tv nt pk pn) := kD_same hDX rfl
  refine lv_aload_n hx hb dL_law_105 rfl (lv_at hl 2 rfl) ?_
  refine lv_aload_n hx hb dL_law_106 rfl (lv_at hl 0 rfl) ?_
  refine lv_iload_n hx hb dL_law_107 rfl (lv_at hl 3 rfl) ?_
  refine lv_iconst (v := 1) hx hb dL_law_108 (by decide) ?_
  refine lv_iadd hx hb dL_law_109 ?_
  refine kv_topi (y := nI (i + 1)) (nI_add i 1) ?_
  refine va_sld hx hb hX hbl hbA hS (vp_in_nI (by omega) (by omega)) dL_law_110 ?_
  refine kv_topi (y := xs (i + 1)) (by rw [nI_clamp (by omega)]) ?_
  refine kc_W [.int (xs (i + 1))] [.int ((fX_newClass av (20 + nc) (xs (i + 1))).1)] ⟨hx, hb, hml, hown, hts0⟩ (cM_newClass l dC dI g0 gp gr gm gl gw gn cI pv nc tr tm tp nt wv nr re nm np pk pn (xs (i + 1)) hnc) (cwV 1 hts0 gZL_newClass rfl rfl rfl (by decide +kernel) ⟨(Nat.le_of_ble_eq_true rfl), (Nat.le_of_ble_eq_true rfl)⟩) hPM hKm hDM hS rfl (ci := 1) (q0 := 0) rfl rfl rfl rfl hl.1 rfl (Nat.le_of_ble_eq_true rfl) dL_law_111 ⟨(Nat.le_of_ble_eq_true rfl), (Nat.le_of_ble_eq_true rfl)⟩ (fun H locs hP1 hS hk1 => ?_)
  have hPX : va_P (dC, dI) vwCl (xW h0 qa qr qt cI cJ ((fX_newClass av (20 + nc) (xs (i + 1))).2.1) ((fX_newClass av (20 + nc) (xs (i + 1))).2.2) rv nr tv nt pk pn) H := kP_kept hPX rfl hdX hk1
  have hPM : va_P (dC, dI) vwCl (mW g0 gp gr gm gl gw gn cI ((fM_newClass pv nc (xs (i + 1))).2.1) ((fM_newClass pv nc (xs (i + 1))).2.2) tr tm tp nt wv nr re nm np pk pn) H := hP1
  have hDM : va_D (fun q : Nat => s.heap.size ≤ q) (mW g0 gp gr gm gl gw gn cI ((fM_newClass pv nc (xs (i + 1))).2.1) ((fM_newClass pv nc (xs (i + 1))).2.2) tr tm tp nt wv nr re nm np pk pn) := kD_same hDM rfl
  refine lv_icmp_eq (tgt := 599) hx hb dL_law_114 (by decide) (fun c114 => ?_) (fun c114 => ?_)
  · refine lv_iinc (v := nI (i + 7)) (lv' := [(3, .int (nI (i + 7))), (0, .ref b), (1, .ref h0), (2, .ref g0)]) hx hb dL_law_599 hl (k := 3) rfl (nI_add i 7) (by decide) rfl (fun ls hl => ?_)
    refine lv_goto (tgt := 18) hx hb dL_law_602 (by decide) ?_
    have hk := eq_newClass hI (xs (i + 1))
    rw [hk.2.1] at hPX hDX
    exact ih _ _ _ _ _ _ _ _ _ _ _ _ _ _ _ _ hk.2.2 H locs hPX hPM hDX hDM hS ls (lv_sub hl [1, 2, 3, 0] rfl)
  · exact absurd ((eq_newClass hI (xs (i + 1))).1) c114
set_option maxHeartbeats 8000000 in
set_option maxRecDepth 100000 in
theorem law_below {p : Program} {l : Launch} {e : Env} {s : State} {m : MethodId} {below : List Frame} {meth : Method} {c : Code} {dC : Nat → ClassId} {dI : Nat → Nat → Nat} {b L : Nat} {xs : Nat → Int32} {h0 qa qr qt g0 gp gr gm gl gw gn : Nat} {cI cJ : ClassId} (C0 : lw_At p s m meth c b L xs) (hdM : ∀ q : Nat, q ∈ [g0, gp, gr, gm, gl, gw, gn] → q ∉ [h0, qa, qr, qt]) (hdX : ∀ q : Nat, q ∈ [h0, qa, qr, qt] → q ∉ [g0, gp, gr, gm, gl, gw, gn]) (hK : va_K (dC, dI) vwCl [(cI, .int), (cJ, .long)] s) (hL : L ≤ 3584) {i : Nat} (hi7 : i + 7 ≤ L) (ih : ∀ (av : Nat → Int32) (nc : Nat) (rv : Nat → Int32) (nr : Nat) (tv : Nat → Int64) (nt : Nat) (pk : Int32) (pn : Int64) (pv : Nat → Int32) (tr : Nat → Int32) (tm : Nat → Int32) (tp : Nat → Int32) (wv : Nat → Int32) (re : Int32) (nm : Nat) (np : Nat → Int32), kRel av nc rv nr tv nt pv tr tm tp wv → ∀ (H : Heap) (locs : List Loc), va_P (dC, dI) vwCl (xW h0 qa qr qt cI cJ av (20 + nc) rv nr tv nt pk pn) H → va_P (dC, dI) vwCl (mW g0 gp gr gm gl gw gn cI pv nc tr tm tp nt wv nr re nm np pk pn) H → va_D (fun q : Nat => s.heap.size ≤ q) (xW h0 qa qr qt cI cJ av (20 + nc) rv nr tv nt pk pn) → va_D (fun q : Nat => s.heap.size ≤ q) (mW g0 gp gr gm gl gw gn cI pv nc tr tm tp nt wv nr re nm np pk pn) → va_S (fun q : Nat => s.heap.size ≤ q) s.heap H locs → ∀ (ls : Array Slot), lv_has ls 4 [(0, .ref b), (1, .ref h0), (2, .ref g0), (3, .int (nI (i + 7)))] → W p l e room_1 s m #[Value.ref b] below meth c H locs 11 4037 (lw_Z below #[Value.ref b] s) (F0 m 18 ls [])) {av : Nat → Int32} {nc : Nat} {rv : Nat → Int32} {nr : Nat} {tv : Nat → Int64} {nt : Nat} {pk : Int32} {pn : Int64} {pv : Nat → Int32} {tr : Nat → Int32} {tm : Nat → Int32} {tp : Nat → Int32} {wv : Nat → Int32} {re : Int32} {nm : Nat} {np : Nat → Int32} (hRel : kRel av nc rv nr tv nt pv tr tm tp wv) {H : Heap} {locs : List Loc} (hPX : va_P (dC, dI) vwCl (xW h0 qa qr qt cI cJ av (20 + nc) rv nr tv nt pk pn) H) (hPM : va_P (dC, dI) vwCl (mW g0 gp gr gm gl gw gn cI pv nc tr tm tp nt wv nr re nm np pk pn) H) (hDX : va_D (fun q : Nat => s.heap.size ≤ q) (xW h0 qa qr qt cI cJ av (20 + nc) rv nr tv nt pk pn)) (hDM : va_D (fun q : Nat => s.heap.size ≤ q) (mW g0 gp gr gm gl gw gn cI pv nc tr tm tp nt wv nr re nm np pk pn)) (hS : va_S (fun q : Nat => s.heap.size ≤ q) s.heap H locs) {ls : Array Slot} (hl : lv_has ls 4 [(0, .ref b), (1, .ref h0), (2, .ref g0), (3, .int (nI i))]) : W p l e room_1 s m #[Value.ref b] below meth c H locs 11 4037 (lw_Z below #[Value.ref b] s) (F0 m 119 ls []) := by
  obtain ⟨hx, hb, hr, hml, hown, hts0, hX, hbl, hlocks, hgv⟩ := C0
  have hts := fun w h => hts0 w (wsL_law_in w h)
  have hA : ∀ q : Nat, s.heap.size ≤ q → (fun q : Nat => s.heap.size ≤ q) q := fun _ h => h
  have hbA : ¬ (fun q : Nat => s.heap.size ≤ q) b := Nat.not_le.mpr hbl
  have hKm : va_K (dC, dI) vwCl [(cI, .int)] s := hK.sub [0] rfl
  obtain ⟨bl, pr, tR, tM, tP, hI⟩ := hRel
  obtain ⟨hnc, hAV, hBL, hPV, hnr, hrw, hnt, hTY⟩ := id hI
  have hnk : 20 ≤ 20 + nc ∧ 20 + nc ≤ 32 := ⟨by omega, by omega⟩
  have hnw := hnr
  have hmt := hnt
  have hTM : kTM tm tM nt := kTY_TM hTY
  have hTP : kTP tr tp tM nt := kTY_TP hnc hTY
  refine lv_aload_n hx hb dL_law_119 rfl (lv_at hl 1 rfl) ?_
  refine lv_aload_n hx hb dL_law_120 rfl (lv_at hl 0 rfl) ?_
  refine lv_iload_n hx hb dL_law_121 rfl (lv_at hl 3 rfl) ?_
  refine lv_iconst (v := 1) hx hb dL_law_122 (by decide) ?_
  refine lv_iadd hx hb dL_law_123 ?_
  refine kv_topi (y := nI (i + 1)) (nI_add i 1) ?_
  refine va_sld hx hb hX hbl hbA hS (vp_in_nI (by omega) (by omega)) dL_law_124 ?_
  refine kv_topi (y := xs (i + 1)) (by rw [nI_clamp (by omega)]) ?_
  refine lv_aload_n hx hb dL_law_125 rfl (lv_at hl 0 rfl) ?_
  refine lv_iload_n hx hb dL_law_126 rfl (lv_at hl 3 rfl) ?_
  refine lv_iconst (v := 2) hx hb dL_law_127 (by decide) ?_
  refine lv_iadd hx hb dL_law_128 ?_
  refine kv_topi (y := nI (i + 2)) (nI_add i 2) ?_
  refine va_sld hx hb hX hbl hbA hS (vp_in_nI (by omega) (by omega)) dL_law_129 ?_
  refine kv_topi (y := xs (i + 2)) (by rw [nI_clamp (by omega)]) ?_
  refine kc_R [.int (xs (i + 1)), .int (xs (i + 2))] [] ⟨hx, hb, hml, hown, hts⟩ (cX_below l dC dI h0 qa qr qt cI cJ av (20 + nc) rv nr tv nt pk pn bl (xs (i + 1)) (xs (i + 2)) hAV hnk) (cwV 2 hts gL_law_X0_below rfl rfl rfl (by decide +kernel) ⟨(Nat.le_of_ble_eq_true rfl), (Nat.le_of_ble_eq_true rfl)⟩) hPX hK (ci := 0) (q0 := 0) rfl rfl rfl rfl hl.1 rfl (Nat.le_of_ble_eq_true rfl) dL_law_130 ⟨(Nat.le_of_ble_eq_true rfl), (Nat.le_of_ble_eq_true rfl)⟩ ?_
  refine lv_aload_n hx hb dL_law_133 rfl (lv_at hl 2 rfl) ?_
  refine lv_aload_n hx hb dL_law_134 rfl (lv_at hl 0 rfl) ?_
  refine lv_iload_n hx hb dL_law_135 rfl (lv_at hl 3 rfl) ?_
  refine lv_iconst (v := 1) hx hb dL_law_136 (by decide) ?_
  refine lv_iadd hx hb dL_law_137 ?_
  refine kv_topi (y := nI (i + 1)) (nI_add i 1) ?_
  refine va_sld hx hb hX hbl hbA hS (vp_in_nI (by omega) (by omega)) dL_law_138 ?_
  refine kv_topi (y := xs (i + 1)) (by rw [nI_clamp (by omega)]) ?_
  refine lv_aload_n hx hb dL_law_139 rfl (lv_at hl 0 rfl) ?_
  refine lv_iload_n hx hb dL_law_140 rfl (lv_at hl 3 rfl) ?_
  refine lv_iconst (v := 2) hx hb dL_law_141 (by decide) ?_
  refine lv_iadd hx hb dL_law_142 ?_
  refine kv_topi (y := nI (i + 2)) (nI_add i 2) ?_
  refine va_sld hx hb hX hbl hbA hS (vp_in_nI (by omega) (by omega)) dL_law_143 ?_
  refine kv_topi (y := xs (i + 2)) (by rw [nI_clamp (by omega)]) ?_
  refine kc_R [.int (xs (i + 1)), .int (xs (i + 2))] [.int (bI (fX_below (20 + nc) bl (xs (i + 1)) (xs (i + 2))))] ⟨hx, hb, hml, hown, hts0⟩ (cM_below l dC dI g0 gp gr gm gl gw gn cI pv nc tr tm tp nt wv nr re nm np pk pn bl pr (xs (i + 1)) (xs (i + 2)) hPV hBL hnc) (cwV 2 hts0 gZL_below rfl rfl rfl (by decide +kernel) ⟨(Nat.le_of_ble_eq_true rfl), (Nat.le_of_ble_eq_true rfl)⟩) hPM hKm (ci := 1) (q0 := 0) rfl rfl rfl rfl hl.1 rfl (Nat.le_of_ble_eq_true rfl) dL_law_144 ⟨(Nat.le_of_ble_eq_true rfl), (Nat.le_of_ble_eq_true rfl)⟩ ?_
  refine lv_icmp_eq (tgt := 599) hx hb dL_law_147 (by decide) (fun c147 => ?_) (fun c147 => ?_)
  · refine lv_iinc (v := nI (i + 7)) (lv' := [(3, .int (nI (i + 7))), (0, .ref b), (1, .ref h0), (2, .ref g0)]) hx hb dL_law_599 hl (k := 3) rfl (nI_add i 7) (by decide) rfl (fun ls hl => ?_)
    refine lv_goto (tgt := 18) hx hb dL_law_602 (by decide) ?_
    exact ih _ _ _ _ _ _ _ _ _ _ _ _ _ _ _ _ ⟨bl, pr, tR, tM, tP, hI⟩ H locs hPX hPM hDX hDM hS ls (lv_sub hl [1, 2, 3, 0] rfl)
  · exact absurd (congrArg bI (eq_below (bl := bl) hnc (xs (i + 1)) (xs (i + 2)))) c147
set_option maxHeartbeats 8000000 in
set_option maxRecDepth 100000 in
theorem law_meet {p : Program} {l : Launch} {e : Env} {s : State} {m : MethodId} {below : List Frame} {meth : Method} {c : Code} {dC : Nat → ClassId} {dI : Nat → Nat → Nat} {b L : Nat} {xs : Nat → Int32} {h0 qa qr qt g0 gp gr gm gl gw gn : Nat} {cI cJ : ClassId} (C0 : lw_At p s m meth c b L xs) (hdM : ∀ q : Nat, q ∈ [g0, gp, gr, gm, gl, gw, gn] → q ∉ [h0, qa, qr, qt]) (hdX : ∀ q : Nat, q ∈ [h0, qa, qr, qt] → q ∉ [g0, gp, gr, gm, gl, gw, gn]) (hK : va_K (dC, dI) vwCl [(cI, .int), (cJ, .long)] s) (hL : L ≤ 3584) {i : Nat} (hi7 : i + 7 ≤ L) (ih : ∀ (av : Nat → Int32) (nc : Nat) (rv : Nat → Int32) (nr : Nat) (tv : Nat → Int64) (nt : Nat) (pk : Int32) (pn : Int64) (pv : Nat → Int32) (tr : Nat → Int32) (tm : Nat → Int32) (tp : Nat → Int32) (wv : Nat → Int32) (re : Int32) (nm : Nat) (np : Nat → Int32), kRel av nc rv nr tv nt pv tr tm tp wv → ∀ (H : Heap) (locs : List Loc), va_P (dC, dI) vwCl (xW h0 qa qr qt cI cJ av (20 + nc) rv nr tv nt pk pn) H → va_P (dC, dI) vwCl (mW g0 gp gr gm gl gw gn cI pv nc tr tm tp nt wv nr re nm np pk pn) H → va_D (fun q : Nat => s.heap.size ≤ q) (xW h0 qa qr qt cI cJ av (20 + nc) rv nr tv nt pk pn) → va_D (fun q : Nat => s.heap.size ≤ q) (mW g0 gp gr gm gl gw gn cI pv nc tr tm tp nt wv nr re nm np pk pn) → va_S (fun q : Nat => s.heap.size ≤ q) s.heap H locs → ∀ (ls : Array Slot), lv_has ls 4 [(0, .ref b), (1, .ref h0), (2, .ref g0), (3, .int (nI (i + 7)))] → W p l e room_1 s m #[Value.ref b] below meth c H locs 11 4037 (lw_Z below #[Value.ref b] s) (F0 m 18 ls [])) {av : Nat → Int32} {nc : Nat} {rv : Nat → Int32} {nr : Nat} {tv : Nat → Int64} {nt : Nat} {pk : Int32} {pn : Int64} {pv : Nat → Int32} {tr : Nat → Int32} {tm : Nat → Int32} {tp : Nat → Int32} {wv : Nat → Int32} {re : Int32} {nm : Nat} {np : Nat → Int32} (hRel : kRel av nc rv nr tv nt pv tr tm tp wv) {H : Heap} {locs : List Loc} (hPX : va_P (dC, dI) vwCl (xW h0 qa qr qt cI cJ av (20 + nc) rv nr tv nt pk pn) H) (hPM : va_P (dC, dI) vwCl (mW g0 gp gr gm gl gw gn cI pv nc tr tm tp nt wv nr re nm np pk pn) H) (hDX : va_D (fun q : Nat => s.heap.size ≤ q) (xW h0 qa qr qt cI cJ av (20 + nc) rv nr tv nt pk pn)) (hDM : va_D (fun q : Nat => s.heap.size ≤ q) (mW g0 gp gr gm gl gw gn cI pv nc tr tm tp nt wv nr re nm np pk pn)) (hS : va_S (fun q : Nat => s.heap.size ≤ q) s.heap H locs) {ls : Array Slot} (hl : lv_has ls 4 [(0, .ref b), (1, .ref h0), (2, .ref g0), (3, .int (nI i))]) : W p l e room_1 s m #[Value.ref b] below meth c H locs 11 4037 (lw_Z below #[Value.ref b] s) (F0 m 152 ls []) := by
  obtain ⟨hx, hb, hr, hml, hown, hts0, hX, hbl, hlocks, hgv⟩ := C0
  have hts := fun w h => hts0 w (wsL_law_in w h)
  have hA : ∀ q : Nat, s.heap.size ≤ q → (fun q : Nat => s.heap.size ≤ q) q := fun _ h => h
  have hbA : ¬ (fun q : Nat => s.heap.size ≤ q) b := Nat.not_le.mpr hbl
  have hKm : va_K (dC, dI) vwCl [(cI, .int)] s := hK.sub [0] rfl
  obtain ⟨bl, pr, tR, tM, tP, hI⟩ := hRel
  obtain ⟨hnc, hAV, hBL, hPV, hnr, hrw, hnt, hTY⟩ := id hI
  have hnk : 20 ≤ 20 + nc ∧ 20 + nc ≤ 32 := ⟨by omega, by omega⟩
  have hnw := hnr
  have hmt := hnt
  have hTM : kTM tm tM nt := kTY_TM hTY
  have hTP : kTP tr tp tM nt := kTY_TP hnc hTY
  refine lv_aload_n hx hb dL_law_152 rfl (lv_at hl 1 rfl) ?_
  refine lv_aload_n hx hb dL_law_153 rfl (lv_at hl 0 rfl) ?_
  refine lv_iload_n hx hb dL_law_154 rfl (lv_at hl 3 rfl) ?_
  refine lv_iconst (v := 1) hx hb dL_law_155 (by decide) ?_
  refine lv_iadd hx hb dL_law_156 ?_
  refine kv_topi (y := nI (i + 1)) (nI_add i 1) ?_
  refine va_sld hx hb hX hbl hbA hS (vp_in_nI (by omega) (by omega)) dL_law_157 ?_
  refine kv_topi (y := xs (i + 1)) (by rw [nI_clamp (by omega)]) ?_
  refine lv_aload_n hx hb dL_law_158 rfl (lv_at hl 0 rfl) ?_
  refine lv_iload_n hx hb dL_law_159 rfl (lv_at hl 3 rfl) ?_
  refine lv_iconst (v := 2) hx hb dL_law_160 (by decide) ?_
  refine lv_iadd hx hb dL_law_161 ?_
  refine kv_topi (y := nI (i + 2)) (nI_add i 2) ?_
  refine va_sld hx hb hX hbl hbA hS (vp_in_nI (by omega) (by omega)) dL_law_162 ?_
  refine kv_topi (y := xs (i + 2)) (by rw [nI_clamp (by omega)]) ?_
  refine kc_R [.int (xs (i + 1)), .int (xs (i + 2))] [] ⟨hx, hb, hml, hown, hts⟩ (cX_meet l dC dI h0 qa qr qt cI cJ av (20 + nc) rv nr tv nt pk pn bl (xs (i + 1)) (xs (i + 2)) hAV hnk) (cwV 2 hts gL_law_X0_meet rfl rfl rfl (by decide +kernel) ⟨(Nat.le_of_ble_eq_true rfl), (Nat.le_of_ble_eq_true rfl)⟩) hPX hK (ci := 0) (q0 := 0) rfl rfl rfl rfl hl.1 rfl (Nat.le_of_ble_eq_true rfl) dL_law_163 ⟨(Nat.le_of_ble_eq_true rfl), (Nat.le_of_ble_eq_true rfl)⟩ ?_
  refine lv_aload_n hx hb dL_law_166 rfl (lv_at hl 2 rfl) ?_
  refine lv_aload_n hx hb dL_law_167 rfl (lv_at hl 0 rfl) ?_
  refine lv_iload_n hx hb dL_law_168 rfl (lv_at hl 3 rfl) ?_
  refine lv_iconst (v := 1) hx hb dL_law_169 (by decide) ?_
  refine lv_iadd hx hb dL_law_170 ?_
  refine kv_topi (y := nI (i + 1)) (nI_add i 1) ?_
  refine va_sld hx hb hX hbl hbA hS (vp_in_nI (by omega) (by omega)) dL_law_171 ?_
  refine kv_topi (y := xs (i + 1)) (by rw [nI_clamp (by omega)]) ?_
  refine lv_aload_n hx hb dL_law_172 rfl (lv_at hl 0 rfl) ?_
  refine lv_iload_n hx hb dL_law_173 rfl (lv_at hl 3 rfl) ?_
  refine lv_iconst (v := 2) hx hb dL_law_174 (by decide) ?_
  refine lv_iadd hx hb dL_law_175 ?_
  refine kv_topi (y := nI (i + 2)) (nI_add i 2) ?_
  refine va_sld hx hb hX hbl hbA hS (vp_in_nI (by omega) (by omega)) dL_law_176 ?_
  refine kv_topi (y := xs (i + 2)) (by rw [nI_clamp (by omega)]) ?_
  refine kc_R [.int (xs (i + 1)), .int (xs (i + 2))] [.int (fX_meet (20 + nc) bl (xs (i + 1)) (xs (i + 2)))] ⟨hx, hb, hml, hown, hts0⟩ (cM_meet l dC dI g0 gp gr gm gl gw gn cI pv nc tr tm tp nt wv nr re nm np pk pn bl pr (xs (i + 1)) (xs (i + 2)) hPV hBL hnc) (cwV 2 hts0 gZL_meet rfl rfl rfl (by decide +kernel) ⟨(Nat.le_of_ble_eq_true rfl), (Nat.le_of_ble_eq_true rfl)⟩) hPM hKm (ci := 1) (q0 := 0) rfl rfl rfl rfl hl.1 rfl (Nat.le_of_ble_eq_true rfl) dL_law_177 ⟨(Nat.le_of_ble_eq_true rfl), (Nat.le_of_ble_eq_true rfl)⟩ ?_
  refine lv_icmp_eq (tgt := 599) hx hb dL_law_180 (by decide) (fun c180 => ?_) (fun c180 => ?_)
  · refine lv_iinc (v := nI (i + 7)) (lv' := [(3, .int (nI (i + 7))), (0, .ref b), (1, .ref h0), (2, .ref g0)]) hx hb dL_law_599 hl (k := 3) rfl (nI_add i 7) (by decide) rfl (fun ls hl => ?_)
    refine lv_goto (tgt := 18) hx hb dL_law_602 (by decide) ?_
    exact ih _ _ _ _ _ _ _ _ _ _ _ _ _ _ _ _ ⟨bl, pr, tR, tM, tP, hI⟩ H locs hPX hPM hDX hDM hS ls (lv_sub hl [1, 2, 3, 0] rfl)
  · exact absurd (eq_meet hBL hnc (xs (i + 1)) (xs (i + 2))) c180
set_option maxHeartbeats 8000000 in
set_option maxRecDepth 100000 in
theorem law_may {p : Program} {l : Launch} {e : Env} {s : State} {m : MethodId} {below : List Frame} {meth : Method} {c : Code} {dC : Nat → ClassId} {dI : Nat → Nat → Nat} {b L : Nat} {xs : Nat → Int32} {h0 qa qr qt g0 gp gr gm gl gw gn : Nat} {cI cJ : ClassId} (C0 : lw_At p s m meth c b L xs) (hdM : ∀ q : Nat, q ∈ [g0, gp, gr, gm, gl, gw, gn] → q ∉ [h0, qa, qr, qt]) (hdX : ∀ q : Nat, q ∈ [h0, qa, qr, qt] → q ∉ [g0, gp, gr, gm, gl, gw, gn]) (hK : va_K (dC, dI) vwCl [(cI, .int), (cJ, .long)] s) (hL : L ≤ 3584) {i : Nat} (hi7 : i + 7 ≤ L) (ih : ∀ (av : Nat → Int32) (nc : Nat) (rv : Nat → Int32) (nr : Nat) (tv : Nat → Int64) (nt : Nat) (pk : Int32) (pn : Int64) (pv : Nat → Int32) (tr : Nat → Int32) (tm : Nat → Int32) (tp : Nat → Int32) (wv : Nat → Int32) (re : Int32) (nm : Nat) (np : Nat → Int32), kRel av nc rv nr tv nt pv tr tm tp wv → ∀ (H : Heap) (locs : List Loc), va_P (dC, dI) vwCl (xW h0 qa qr qt cI cJ av (20 + nc) rv nr tv nt pk pn) H → va_P (dC, dI) vwCl (mW g0 gp gr gm gl gw gn cI pv nc tr tm tp nt wv nr re nm np pk pn) H → va_D (fun q : Nat => s.heap.size ≤ q) (xW h0 qa qr qt cI cJ av (20 + nc) rv nr tv nt pk pn) → va_D (fun q : Nat => s.heap.size ≤ q) (mW g0 gp gr gm gl gw gn cI pv nc tr tm tp nt wv nr re nm np pk pn) → va_S (fun q : Nat => s.heap.size ≤ q) s.heap H locs → ∀ (ls : Array Slot), lv_has ls 4 [(0, .ref b), (1, .ref h0), (2, .ref g0), (3, .int (nI (i + 7)))] → W p l e room_1 s m #[Value.ref b] below meth c H locs 11 4037 (lw_Z below #[Value.ref b] s) (F0 m 18 ls [])) {av : Nat → Int32} {nc : Nat} {rv : Nat → Int32} {nr : Nat} {tv : Nat → Int64} {nt : Nat} {pk : Int32} {pn : Int64} {pv : Nat → Int32} {tr : Nat → Int32} {tm : Nat → Int32} {tp : Nat → Int32} {wv : Nat → Int32} {re : Int32} {nm : Nat} {np : Nat → Int32} (hRel : kRel av nc rv nr tv nt pv tr tm tp wv) {H : Heap} {locs : List Loc} (hPX : va_P (dC, dI) vwCl (xW h0 qa qr qt cI cJ av (20 + nc) rv nr tv nt pk pn) H) (hPM : va_P (dC, dI) vwCl (mW g0 gp gr gm gl gw gn cI pv nc tr tm tp nt wv nr re nm np pk pn) H) (hDX : va_D (fun q : Nat => s.heap.size ≤ q) (xW h0 qa qr qt cI cJ av (20 + nc) rv nr tv nt pk pn)) (hDM : va_D (fun q : Nat => s.heap.size ≤ q) (mW g0 gp gr gm gl gw gn cI pv nc tr tm tp nt wv nr re nm np pk pn)) (hS : va_S (fun q : Nat => s.heap.size ≤ q) s.heap H locs) {ls : Array Slot} (hl : lv_has ls 4 [(0, .ref b), (1, .ref h0), (2, .ref g0), (3, .int (nI i))]) : W p l e room_1 s m #[Value.ref b] below meth c H locs 11 4037 (lw_Z below #[Value.ref b] s) (F0 m 185 ls []) := by
  obtain ⟨hx, hb, hr, hml, hown, hts0, hX, hbl, hlocks, hgv⟩ := C0
  have hts := fun w h => hts0 w (wsL_law_in w h)
  have hA : ∀ q : Nat, s.heap.size ≤ q → (fun q : Nat => s.heap.size ≤ q) q := fun _ h => h
  have hbA : ¬ (fun q : Nat => s.heap.size ≤ q) b := Nat.not_le.mpr hbl
  have hKm : va_K (dC, dI) vwCl [(cI, .int)] s := hK.sub [0] rfl
  obtain ⟨bl, pr, tR, tM, tP, hI⟩ := hRel
  obtain ⟨hnc, hAV, hBL, hPV, hnr, hrw, hnt, hTY⟩ := id hI
  have hnk : 20 ≤ 20 + nc ∧ 20 + nc ≤ 32 := ⟨by omega, by omega⟩
  have hnw := hnr
  have hmt := hnt
  have hTM : kTM tm tM nt := kTY_TM hTY
  have hTP : kTP tr tp tM nt := kTY_TP hnc hTY
  refine lv_aload_n hx hb dL_law_185 rfl (lv_at hl 1 rfl) ?_
  refine lv_aload_n hx hb dL_law_186 rfl (lv_at hl 0 rfl) ?_
  refine lv_iload_n hx hb dL_law_187 rfl (lv_at hl 3 rfl) ?_
  refine lv_iconst (v := 1) hx hb dL_law_188 (by decide) ?_
  refine lv_iadd hx hb dL_law_189 ?_
  refine kv_topi (y := nI (i + 1)) (nI_add i 1) ?_
  refine va_sld hx hb hX hbl hbA hS (vp_in_nI (by omega) (by omega)) dL_law_190 ?_
  refine kv_topi (y := xs (i + 1)) (by rw [nI_clamp (by omega)]) ?_
  refine lv_aload_n hx hb dL_law_191 rfl (lv_at hl 0 rfl) ?_
  refine lv_iload_n hx hb dL_law_192 rfl (lv_at hl 3 rfl) ?_
  refine lv_iconst (v := 2) hx hb dL_law_193 (by decide) ?_
  refine lv_iadd hx hb dL_law_194 ?_
  refine kv_topi (y := nI (i + 2)) (nI_add i 2) ?_
  refine va_sld hx hb hX hbl hbA hS (vp_in_nI (by omega) (by omega)) dL_law_195 ?_
  refine kv_topi (y := xs (i + 2)) (by rw [nI_clamp (by omega)]) ?_
  refine lv_aload_n hx hb dL_law_196 rfl (lv_at hl 0 rfl) ?_
  refine lv_iload_n hx hb dL_law_197 rfl (lv_at hl 3 rfl) ?_
  refine lv_iconst (v := 3) hx hb dL_law_198 (by decide) ?_
  refine lv_iadd hx hb dL_law_199 ?_
  refine kv_topi (y := nI (i + 3)) (nI_add i 3) ?_
  refine va_sld hx hb hX hbl hbA hS (vp_in_nI (by omega) (by omega)) dL_law_200 ?_
  refine kv_topi (y := xs (i + 3)) (by rw [nI_clamp (by omega)]) ?_
  refine lv_if_eq (tgt := 208) hx hb dL_law_201 (by decide) (fun c201 => ?_) (fun c201 => ?_)
  · refine lv_iconst (v := 0) hx hb dL_law_208 (by decide) ?_
    refine lv_aload_n hx hb dL_law_209 rfl (lv_at hl 0 rfl) ?_
    refine lv_iload_n hx hb dL_law_210 rfl (lv_at hl 3 rfl) ?_
    refine lv_iconst (v := 4) hx hb dL_law_211 (by decide) ?_
    refine lv_iadd hx hb dL_law_212 ?_
    refine kv_topi (y := nI (i + 4)) (nI_add i 4) ?_
    refine va_sld hx hb hX hbl hbA hS (vp_in_nI (by omega) (by omega)) dL_law_213 ?_
    refine kv_topi (y := xs (i + 4)) (by rw [nI_clamp (by omega)]) ?_
    refine lv_if_eq (tgt := 221) hx hb dL_law_214 (by decide) (fun c214 => ?_) (fun c214 => ?_)
    · refine lv_iconst (v := 0) hx hb dL_law_221 (by decide) ?_
      refine kc_R [.int (xs (i + 1)), .int (xs (i + 2)), .int 0, .int 0] [] ⟨hx, hb, hml, hown, hts⟩ (cX_may l dC dI h0 qa qr qt cI cJ av (20 + nc) rv nr tv nt pk pn bl (xs (i + 1)) (xs (i + 2)) false false hAV hnk) (cwV 4 hts gL_law_X0_may rfl rfl rfl (by decide +kernel) ⟨(Nat.le_of_ble_eq_true rfl), (Nat.le_of_ble_eq_true rfl)⟩) hPX hK (ci := 0) (q0 := 0) rfl rfl rfl rfl hl.1 rfl (Nat.le_of_ble_eq_true rfl) dL_law_222 ⟨(Nat.le_of_ble_eq_true rfl), (Nat.le_of_ble_eq_true rfl)⟩ ?_
      refine lv_aload_n hx hb dL_law_225 rfl (lv_at hl 2 rfl) ?_
      refine lv_aload_n hx hb dL_law_226 rfl (lv_at hl 0 rfl) ?_
      refine lv_iload_n hx hb dL_law_227 rfl (lv_at hl 3 rfl) ?_
      refine lv_iconst (v := 1) hx hb dL_law_228 (by decide) ?_
      refine lv_iadd hx hb dL_law_229 ?_
      refine kv_topi (y := nI (i + 1)) (nI_add i 1) ?_
      refine va_sld hx hb hX hbl hbA hS (vp_in_nI (by omega) (by omega)) dL_law_230 ?_
      refine kv_topi (y := xs (i + 1)) (by rw [nI_clamp (by omega)]) ?_
      refine lv_aload_n hx hb dL_law_231 rfl (lv_at hl 0 rfl) ?_
      refine lv_iload_n hx hb dL_law_232 rfl (lv_at hl 3 rfl) ?_
      refine lv_iconst (v := 2) hx hb dL_law_233 (by decide) ?_
      refine lv_iadd hx hb dL_law_234 ?_
      refine kv_topi (y := nI (i + 2)) (nI_add i 2) ?_
      refine va_sld hx hb hX hbl hbA hS (vp_in_nI (by omega) (by omega)) dL_law_235 ?_
      refine kv_topi (y := xs (i + 2)) (by rw [nI_clamp (by omega)]) ?_
      refine lv_aload_n hx hb dL_law_236 rfl (lv_at hl 0 rfl) ?_
      refine lv_iload_n hx hb dL_law_237 rfl (lv_at hl 3 rfl) ?_
      refine lv_iconst (v := 3) hx hb dL_law_238 (by decide) ?_
      refine lv_iadd hx hb dL_law_239 ?_
      refine kv_topi (y := nI (i + 3)) (nI_add i 3) ?_
      refine va_sld hx hb hX hbl hbA hS (vp_in_nI (by omega) (by omega)) dL_law_240 ?_
      refine kv_topi (y := xs (i + 3)) (by rw [nI_clamp (by omega)]) ?_
      refine lv_if_eq (tgt := 248) hx hb dL_law_241 (by decide) (fun c241 => ?_) (fun c241 => ?_)
      · refine lv_iconst (v := 0) hx hb dL_law_248 (by decide) ?_
        refine lv_aload_n hx hb dL_law_249 rfl (lv_at hl 0 rfl) ?_
        refine lv_iload_n hx hb dL_law_250 rfl (lv_at hl 3 rfl) ?_
        refine lv_iconst (v := 4) hx hb dL_law_251 (by decide) ?_
        refine lv_iadd hx hb dL_law_252 ?_
        refine kv_topi (y := nI (i + 4)) (nI_add i 4) ?_
        refine va_sld hx hb hX hbl hbA hS (vp_in_nI (by omega) (by omega)) dL_law_253 ?_
        refine kv_topi (y := xs (i + 4)) (by rw [nI_clamp (by omega)]) ?_
        refine lv_if_eq (tgt := 261) hx hb dL_law_254 (by decide) (fun c254 => ?_) (fun c254 => ?_)
        · refine lv_iconst (v := 0) hx hb dL_law_261 (by decide) ?_
          refine kc_R [.int (xs (i + 1)), .int (xs (i + 2)), .int 0, .int 0] [.int (bI (fX_may (20 + nc) bl (xs (i + 1)) (xs (i + 2)) false false))] ⟨hx, hb, hml, hown, hts0⟩ (cM_may l dC dI g0 gp gr gm gl gw gn cI pv nc tr tm tp nt wv nr re nm np pk pn bl pr (xs (i + 1)) (xs (i + 2)) false false hPV hBL hnc) (cwV 4 hts0 gZL_may rfl rfl rfl (by decide +kernel) ⟨(Nat.le_of_ble_eq_true rfl), (Nat.le_of_ble_eq_true rfl)⟩) hPM hKm (ci := 1) (q0 := 0) rfl rfl rfl rfl hl.1 rfl (Nat.le_of_ble_eq_true rfl) dL_law_262 ⟨(Nat.le_of_ble_eq_true rfl), (Nat.le_of_ble_eq_true rfl)⟩ ?_
          refine lv_icmp_eq (tgt := 599) hx hb dL_law_265 (by decide) (fun c265 => ?_) (fun c265 => ?_)
          · refine lv_iinc (v := nI (i + 7)) (lv' := [(3, .int (nI (i + 7))), (0, .ref b), (1, .ref h0), (2, .ref g0)]) hx hb dL_law_599 hl (k := 3) rfl (nI_add i 7) (by decide) rfl (fun ls hl => ?_)
            refine lv_goto (tgt := 18) hx hb dL_law_602 (by decide) ?_
            exact ih _ _ _ _ _ _ _ _ _ _ _ _ _ _ _ _ ⟨bl, pr, tR, tM, tP, hI⟩ H locs hPX hPM hDX hDM hS ls (lv_sub hl [1, 2, 3, 0] rfl)
          · exact absurd (congrArg bI (eq_may (bl := bl) hnc (xs (i + 1)) (xs (i + 2)) false false)) c265
        · exact absurd c214 c254
      · exact absurd c201 c241
    · refine lv_iconst (v := 1) hx hb dL_law_217 (by decide) ?_
      refine lv_goto (tgt := 222) hx hb dL_law_218 (by decide) ?_
      refine kc_R [.int (xs (i + 1)), .int (xs (i + 2)), .int 0, .int 1] [] ⟨hx, hb, hml, hown, hts⟩ (cX_may l dC dI h0 qa qr qt cI cJ av (20 + nc) rv nr tv nt pk pn bl (xs (i + 1)) (xs (i + 2)) false true hAV hnk) (cwV 4 hts gL_law_X0_may rfl rfl rfl (by decide +kernel) ⟨(Nat.le_of_ble_eq_true rfl), (Nat.le_of_ble_eq_true rfl)⟩) hPX hK (ci := 0) (q0 := 0) rfl rfl rfl rfl hl.1 rfl (Nat.le_of_ble_eq_true rfl) dL_law_222 ⟨(Nat.le_of_ble_eq_true rfl), (Nat.le_of_ble_eq_true rfl)⟩ ?_
      refine lv_aload_n hx hb dL_law_225 rfl (lv_at hl 2 rfl) ?_
      refine lv_aload_n hx hb dL_law_226 rfl (lv_at hl 0 rfl) ?_
      refine lv_iload_n hx hb dL_law_227 rfl (lv_at hl 3 rfl) ?_
      refine lv_iconst (v := 1) hx hb dL_law_228 (by decide) ?_
      refine lv_iadd hx hb dL_law_229 ?_
      refine kv_topi (y := nI (i + 1)) (nI_add i 1) ?_
      refine va_sld hx hb hX hbl hbA hS (vp_in_nI (by omega) (by omega)) dL_law_230 ?_
      refine kv_topi (y := xs (i + 1)) (by rw [nI_clamp (by omega)]) ?_
      refine lv_aload_n hx hb dL_law_231 rfl (lv_at hl 0 rfl) ?_
      refine lv_iload_n hx hb dL_law_232 rfl (lv_at hl 3 rfl) ?_
      refine lv_iconst (v := 2) hx hb dL_law_233 (by decide) ?_
      refine lv_iadd hx hb dL_law_234 ?_
      refine kv_topi (y := nI (i + 2)) (nI_add i 2) ?_
      refine va_sld hx hb hX hbl hbA hS (vp_in_nI (by omega) (by omega)) dL_law_235 ?_
      refine kv_topi (y := xs (i + 2)) (by rw [nI_clamp (by omega)]) ?_
      refine lv_aload_n hx hb dL_law_236 rfl (lv_at hl 0 rfl) ?_
      refine lv_iload_n hx hb dL_law_237 rfl (lv_at hl 3 rfl) ?_
      refine lv_iconst (v := 3) hx hb dL_law_238 (by decide) ?_
      refine lv_iadd hx hb dL_law_239 ?_
      refine kv_topi (y := nI (i + 3)) (nI_add i 3) ?_
      refine va_sld hx hb hX hbl hbA hS (vp_in_nI (by omega) (by omega)) dL_law_240 ?_
      refine kv_topi (y := xs (i + 3)) (by rw [nI_clamp (by omega)]) ?_
      refine lv_if_eq (tgt := 248) hx hb dL_law_241 (by decide) (fun c241 => ?_) (fun c241 => ?_)
      · refine lv_iconst (v := 0) hx hb dL_law_248 (by decide) ?_
        refine lv_aload_n hx hb dL_law_249 rfl (lv_at hl 0 rfl) ?_
        refine lv_iload_n hx hb dL_law_250 rfl (lv_at hl 3 rfl) ?_
        refine lv_iconst (v := 4) hx hb dL_law_251 (by decide) ?_
        refine lv_iadd hx hb dL_law_252 ?_
        refine kv_topi (y := nI (i + 4)) (nI_add i 4) ?_
        refine va_sld hx hb hX hbl hbA hS (vp_in_nI (by omega) (by omega)) dL_law_253 ?_
        refine kv_topi (y := xs (i + 4)) (by rw [nI_clamp (by omega)]) ?_
        refine lv_if_eq (tgt := 261) hx hb dL_law_254 (by decide) (fun c254 => ?_) (fun c254 => ?_)
        · exact absurd c254 c214
        · refine lv_iconst (v := 1) hx hb dL_law_257 (by decide) ?_
          refine lv_goto (tgt := 262) hx hb dL_law_258 (by decide) ?_
          refine kc_R [.int (xs (i + 1)), .int (xs (i + 2)), .int 0, .int 1] [.int (bI (fX_may (20 + nc) bl (xs (i + 1)) (xs (i + 2)) false true))] ⟨hx, hb, hml, hown, hts0⟩ (cM_may l dC dI g0 gp gr gm gl gw gn cI pv nc tr tm tp nt wv nr re nm np pk pn bl pr (xs (i + 1)) (xs (i + 2)) false true hPV hBL hnc) (cwV 4 hts0 gZL_may rfl rfl rfl (by decide +kernel) ⟨(Nat.le_of_ble_eq_true rfl), (Nat.le_of_ble_eq_true rfl)⟩) hPM hKm (ci := 1) (q0 := 0) rfl rfl rfl rfl hl.1 rfl (Nat.le_of_ble_eq_true rfl) dL_law_262 ⟨(Nat.le_of_ble_eq_true rfl), (Nat.le_of_ble_eq_true rfl)⟩ ?_
          refine lv_icmp_eq (tgt := 599) hx hb dL_law_265 (by decide) (fun c265 => ?_) (fun c265 => ?_)
          · refine lv_iinc (v := nI (i + 7)) (lv' := [(3, .int (nI (i + 7))), (0, .ref b), (1, .ref h0), (2, .ref g0)]) hx hb dL_law_599 hl (k := 3) rfl (nI_add i 7) (by decide) rfl (fun ls hl => ?_)
            refine lv_goto (tgt := 18) hx hb dL_law_602 (by decide) ?_
            exact ih _ _ _ _ _ _ _ _ _ _ _ _ _ _ _ _ ⟨bl, pr, tR, tM, tP, hI⟩ H locs hPX hPM hDX hDM hS ls (lv_sub hl [1, 2, 3, 0] rfl)
          · exact absurd (congrArg bI (eq_may (bl := bl) hnc (xs (i + 1)) (xs (i + 2)) false true)) c265
      · exact absurd c201 c241
  · refine lv_iconst (v := 1) hx hb dL_law_204 (by decide) ?_
    refine lv_goto (tgt := 209) hx hb dL_law_205 (by decide) ?_
    refine lv_aload_n hx hb dL_law_209 rfl (lv_at hl 0 rfl) ?_
    refine lv_iload_n hx hb dL_law_210 rfl (lv_at hl 3 rfl) ?_
    refine lv_iconst (v := 4) hx hb dL_law_211 (by decide) ?_
    refine lv_iadd hx hb dL_law_212 ?_
    refine kv_topi (y := nI (i + 4)) (nI_add i 4) ?_
    refine va_sld hx hb hX hbl hbA hS (vp_in_nI (by omega) (by omega)) dL_law_213 ?_
    refine kv_topi (y := xs (i + 4)) (by rw [nI_clamp (by omega)]) ?_
    refine lv_if_eq (tgt := 221) hx hb dL_law_214 (by decide) (fun c214 => ?_) (fun c214 => ?_)
    · refine lv_iconst (v := 0) hx hb dL_law_221 (by decide) ?_
      refine kc_R [.int (xs (i + 1)), .int (xs (i + 2)), .int 1, .int 0] [] ⟨hx, hb, hml, hown, hts⟩ (cX_may l dC dI h0 qa qr qt cI cJ av (20 + nc) rv nr tv nt pk pn bl (xs (i + 1)) (xs (i + 2)) true false hAV hnk) (cwV 4 hts gL_law_X0_may rfl rfl rfl (by decide +kernel) ⟨(Nat.le_of_ble_eq_true rfl), (Nat.le_of_ble_eq_true rfl)⟩) hPX hK (ci := 0) (q0 := 0) rfl rfl rfl rfl hl.1 rfl (Nat.le_of_ble_eq_true rfl) dL_law_222 ⟨(Nat.le_of_ble_eq_true rfl), (Nat.le_of_ble_eq_true rfl)⟩ ?_
      refine lv_aload_n hx hb dL_law_225 rfl (lv_at hl 2 rfl) ?_
      refine lv_aload_n hx hb dL_law_226 rfl (lv_at hl 0 rfl) ?_
      refine lv_iload_n hx hb dL_law_227 rfl (lv_at hl 3 rfl) ?_
      refine lv_iconst (v := 1) hx hb dL_law_228 (by decide) ?_
      refine lv_iadd hx hb dL_law_229 ?_
      refine kv_topi (y := nI (i + 1)) (nI_add i 1) ?_
      refine va_sld hx hb hX hbl hbA hS (vp_in_nI (by omega) (by omega)) dL_law_230 ?_
      refine kv_topi (y := xs (i + 1)) (by rw [nI_clamp (by omega)]) ?_
      refine lv_aload_n hx hb dL_law_231 rfl (lv_at hl 0 rfl) ?_
      refine lv_iload_n hx hb dL_law_232 rfl (lv_at hl 3 rfl) ?_
      refine lv_iconst (v := 2) hx hb dL_law_233 (by decide) ?_
      refine lv_iadd hx hb dL_law_234 ?_
      refine kv_topi (y := nI (i + 2)) (nI_add i 2) ?_
      refine va_sld hx hb hX hbl hbA hS (vp_in_nI (by omega) (by omega)) dL_law_235 ?_
      refine kv_topi (y := xs (i + 2)) (by rw [nI_clamp (by omega)]) ?_
      refine lv_aload_n hx hb dL_law_236 rfl (lv_at hl 0 rfl) ?_
      refine lv_iload_n hx hb dL_law_237 rfl (lv_at hl 3 rfl) ?_
      refine lv_iconst (v := 3) hx hb dL_law_238 (by decide) ?_
      refine lv_iadd hx hb dL_law_239 ?_
      refine kv_topi (y := nI (i + 3)) (nI_add i 3) ?_
      refine va_sld hx hb hX hbl hbA hS (vp_in_nI (by omega) (by omega)) dL_law_240 ?_
      refine kv_topi (y := xs (i + 3)) (by rw [nI_clamp (by omega)]) ?_
      refine lv_if_eq (tgt := 248) hx hb dL_law_241 (by decide) (fun c241 => ?_) (fun c241 => ?_)
      · exact absurd c241 c201
      · refine lv_iconst (v := 1) hx hb dL_law_244 (by decide) ?_
        refine lv_goto (tgt := 249) hx hb dL_law_245 (by decide) ?_
        refine lv_aload_n hx hb dL_law_249 rfl (lv_at hl 0 rfl) ?_
        refine lv_iload_n hx hb dL_law_250 rfl (lv_at hl 3 rfl) ?_
        refine lv_iconst (v := 4) hx hb dL_law_251 (by decide) ?_
        refine lv_iadd hx hb dL_law_252 ?_
        refine kv_topi (y := nI (i + 4)) (nI_add i 4) ?_
        refine va_sld hx hb hX hbl hbA hS (vp_in_nI (by omega) (by omega)) dL_law_253 ?_
        refine kv_topi (y := xs (i + 4)) (by rw [nI_clamp (by omega)]) ?_
        refine lv_if_eq (tgt := 261) hx hb dL_law_254 (by decide) (fun c254 => ?_) (fun c254 => ?_)
        · refine lv_iconst (v := 0) hx hb dL_law_261 (by decide) ?_
          refine kc_R [.int (xs (i + 1)), .int (xs (i + 2)), .int 1, .int 0] [.int (bI (fX_may (20 + nc) bl (xs (i + 1)) (xs (i + 2)) true false))] ⟨hx, hb, hml, hown, hts0⟩ (cM_may l dC dI g0 gp gr gm gl gw gn cI pv nc tr tm tp nt wv nr re nm np pk pn bl pr (xs (i + 1)) (xs (i + 2)) true false hPV hBL hnc) (cwV 4 hts0 gZL_may rfl rfl rfl (by decide +kernel) ⟨(Nat.le_of_ble_eq_true rfl), (Nat.le_of_ble_eq_true rfl)⟩) hPM hKm (ci := 1) (q0 := 0) rfl rfl rfl rfl hl.1 rfl (Nat.le_of_ble_eq_true rfl) dL_law_262 ⟨(Nat.le_of_ble_eq_true rfl), (Nat.le_of_ble_eq_true rfl)⟩ ?_
          refine lv_icmp_eq (tgt := 599) hx hb dL_law_265 (by decide) (fun c265 => ?_) (fun c265 => ?_)
          · refine lv_iinc (v := nI (i + 7)) (lv' := [(3, .int (nI (i + 7))), (0, .ref b), (1, .ref h0), (2, .ref g0)]) hx hb dL_law_599 hl (k := 3) rfl (nI_add i 7) (by decide) rfl (fun ls hl => ?_)
            refine lv_goto (tgt := 18) hx hb dL_law_602 (by decide) ?_
            exact ih _ _ _ _ _ _ _ _ _ _ _ _ _ _ _ _ ⟨bl, pr, tR, tM, tP, hI⟩ H locs hPX hPM hDX hDM hS ls (lv_sub hl [1, 2, 3, 0] rfl)
          · exact absurd (congrArg bI (eq_may (bl := bl) hnc (xs (i + 1)) (xs (i + 2)) true false)) c265
        · exact absurd c214 c254
    · refine lv_iconst (v := 1) hx hb dL_law_217 (by decide) ?_
      refine lv_goto (tgt := 222) hx hb dL_law_218 (by decide) ?_
      refine kc_R [.int (xs (i + 1)), .int (xs (i + 2)), .int 1, .int 1] [] ⟨hx, hb, hml, hown, hts⟩ (cX_may l dC dI h0 qa qr qt cI cJ av (20 + nc) rv nr tv nt pk pn bl (xs (i + 1)) (xs (i + 2)) true true hAV hnk) (cwV 4 hts gL_law_X0_may rfl rfl rfl (by decide +kernel) ⟨(Nat.le_of_ble_eq_true rfl), (Nat.le_of_ble_eq_true rfl)⟩) hPX hK (ci := 0) (q0 := 0) rfl rfl rfl rfl hl.1 rfl (Nat.le_of_ble_eq_true rfl) dL_law_222 ⟨(Nat.le_of_ble_eq_true rfl), (Nat.le_of_ble_eq_true rfl)⟩ ?_
      refine lv_aload_n hx hb dL_law_225 rfl (lv_at hl 2 rfl) ?_
      refine lv_aload_n hx hb dL_law_226 rfl (lv_at hl 0 rfl) ?_
      refine lv_iload_n hx hb dL_law_227 rfl (lv_at hl 3 rfl) ?_
      refine lv_iconst (v := 1) hx hb dL_law_228 (by decide) ?_
      refine lv_iadd hx hb dL_law_229 ?_
      refine kv_topi (y := nI (i + 1)) (nI_add i 1) ?_
      refine va_sld hx hb hX hbl hbA hS (vp_in_nI (by omega) (by omega)) dL_law_230 ?_
      refine kv_topi (y := xs (i + 1)) (by rw [nI_clamp (by omega)]) ?_
      refine lv_aload_n hx hb dL_law_231 rfl (lv_at hl 0 rfl) ?_
      refine lv_iload_n hx hb dL_law_232 rfl (lv_at hl 3 rfl) ?_
      refine lv_iconst (v := 2) hx hb dL_law_233 (by decide) ?_
      refine lv_iadd hx hb dL_law_234 ?_
      refine kv_topi (y := nI (i + 2)) (nI_add i 2) ?_
      refine va_sld hx hb hX hbl hbA hS (vp_in_nI (by omega) (by omega)) dL_law_235 ?_
      refine kv_topi (y := xs (i + 2)) (by rw [nI_clamp (by omega)]) ?_
      refine lv_aload_n hx hb dL_law_236 rfl (lv_at hl 0 rfl) ?_
      refine lv_iload_n hx hb dL_law_237 rfl (lv_at hl 3 rfl) ?_
      refine lv_iconst (v := 3) hx hb dL_law_238 (by decide) ?_
      refine lv_iadd hx hb dL_law_239 ?_
      refine kv_topi (y := nI (i + 3)) (nI_add i 3) ?_
      refine va_sld hx hb hX hbl hbA hS (vp_in_nI (by omega) (by omega)) dL_law_240 ?_
      refine kv_topi (y := xs (i + 3)) (by rw [nI_clamp (by omega)]) ?_
      refine lv_if_eq (tgt := 248) hx hb dL_law_241 (by decide) (fun c241 => ?_) (fun c241 => ?_)
      · exact absurd c241 c201
      · refine lv_iconst (v := 1) hx hb dL_law_244 (by decide) ?_
        refine lv_goto (tgt := 249) hx hb dL_law_245 (by decide) ?_
        refine lv_aload_n hx hb dL_law_249 rfl (lv_at hl 0 rfl) ?_
        refine lv_iload_n hx hb dL_law_250 rfl (lv_at hl 3 rfl) ?_
        refine lv_iconst (v := 4) hx hb dL_law_251 (by decide) ?_
        refine lv_iadd hx hb dL_law_252 ?_
        refine kv_topi (y := nI (i + 4)) (nI_add i 4) ?_
        refine va_sld hx hb hX hbl hbA hS (vp_in_nI (by omega) (by omega)) dL_law_253 ?_
        refine kv_topi (y := xs (i + 4)) (by rw [nI_clamp (by omega)]) ?_
        refine lv_if_eq (tgt := 261) hx hb dL_law_254 (by decide) (fun c254 => ?_) (fun c254 => ?_)
        · exact absurd c254 c214
        · refine lv_iconst (v := 1) hx hb dL_law_257 (by decide) ?_
          refine lv_goto (tgt := 262) hx hb dL_law_258 (by decide) ?_
          refine kc_R [.int (xs (i + 1)), .int (xs (i + 2)), .int 1, .int 1] [.int (bI (fX_may (20 + nc) bl (xs (i + 1)) (xs (i + 2)) true true))] ⟨hx, hb, hml, hown, hts0⟩ (cM_may l dC dI g0 gp gr gm gl gw gn cI pv nc tr tm tp nt wv nr re nm np pk pn bl pr (xs (i + 1)) (xs (i + 2)) true true hPV hBL hnc) (cwV 4 hts0 gZL_may rfl rfl rfl (by decide +kernel) ⟨(Nat.le_of_ble_eq_true rfl), (Nat.le_of_ble_eq_true rfl)⟩) hPM hKm (ci := 1) (q0 := 0) rfl rfl rfl rfl hl.1 rfl (Nat.le_of_ble_eq_true rfl) dL_law_262 ⟨(Nat.le_of_ble_eq_true rfl), (Nat.le_of_ble_eq_true rfl)⟩ ?_
          refine lv_icmp_eq (tgt := 599) hx hb dL_law_265 (by decide) (fun c265 => ?_) (fun c265 => ?_)
          · refine lv_iinc (v := nI (i + 7)) (lv' := [(3, .int (nI (i + 7))), (0, .ref b), (1, .ref h0), (2, .ref g0)]) hx hb dL_law_599 hl (k := 3) rfl (nI_add i 7) (by decide) rfl (fun ls hl => ?_)
            refine lv_goto (tgt := 18) hx hb dL_law_602 (by decide) ?_
            exact ih _ _ _ _ _ _ _ _ _ _ _ _ _ _ _ _ ⟨bl, pr, tR, tM, tP, hI⟩ H locs hPX hPM hDX hDM hS ls (lv_sub hl [1, 2, 3, 0] rfl)
          · exact absurd (congrArg bI (eq_may (bl := bl) hnc (xs (i + 1)) (xs (i + 2)) true true)) c265
set_option maxHeartbeats 8000000 in
set_option maxRecDepth 100000 in
theorem law_pass {p : Program} {l : Launch} {e : Env} {s : State} {m : MethodId} {below : List Frame} {meth : Method} {c : Code} {dC : Nat → ClassId} {dI : Nat → Nat → Nat} {b L : Nat} {xs : Nat → Int32} {h0 qa qr qt g0 gp gr gm gl gw gn : Nat} {cI cJ : ClassId} (C0 : lw_At p s m meth c b L xs) (hdM : ∀ q : Nat, q ∈ [g0, gp, gr, gm, gl, gw, gn] → q ∉ [h0, qa, qr, qt]) (hdX : ∀ q : Nat, q ∈ [h0, qa, qr, qt] → q ∉ [g0, gp, gr, gm, gl, gw, gn]) (hK : va_K (dC, dI) vwCl [(cI, .int), (cJ, .long)] s) (hL : L ≤ 3584) {i : Nat} (hi7 : i + 7 ≤ L) (ih : ∀ (av : Nat → Int32) (nc : Nat) (rv : Nat → Int32) (nr : Nat) (tv : Nat → Int64) (nt : Nat) (pk : Int32) (pn : Int64) (pv : Nat → Int32) (tr : Nat → Int32) (tm : Nat → Int32) (tp : Nat → Int32) (wv : Nat → Int32) (re : Int32) (nm : Nat) (np : Nat → Int32), kRel av nc rv nr tv nt pv tr tm tp wv → ∀ (H : Heap) (locs : List Loc), va_P (dC, dI) vwCl (xW h0 qa qr qt cI cJ av (20 + nc) rv nr tv nt pk pn) H → va_P (dC, dI) vwCl (mW g0 gp gr gm gl gw gn cI pv nc tr tm tp nt wv nr re nm np pk pn) H → va_D (fun q : Nat => s.heap.size ≤ q) (xW h0 qa qr qt cI cJ av (20 + nc) rv nr tv nt pk pn) → va_D (fun q : Nat => s.heap.size ≤ q) (mW g0 gp gr gm gl gw gn cI pv nc tr tm tp nt wv nr re nm np pk pn) → va_S (fun q : Nat => s.heap.size ≤ q) s.heap H locs → ∀ (ls : Array Slot), lv_has ls 4 [(0, .ref b), (1, .ref h0), (2, .ref g0), (3, .int (nI (i + 7)))] → W p l e room_1 s m #[Value.ref b] below meth c H locs 11 4037 (lw_Z below #[Value.ref b] s) (F0 m 18 ls [])) {av : Nat → Int32} {nc : Nat} {rv : Nat → Int32} {nr : Nat} {tv : Nat → Int64} {nt : Nat} {pk : Int32} {pn : Int64} {pv : Nat → Int32} {tr : Nat → Int32} {tm : Nat → Int32} {tp : Nat → Int32} {wv : Nat → Int32} {re : Int32} {nm : Nat} {np : Nat → Int32} (hRel : kRel av nc rv nr tv nt pv tr tm tp wv) {H : Heap} {locs : List Loc} (hPX : va_P (dC, dI) vwCl (xW h0 qa qr qt cI cJ av (20 + nc) rv nr tv nt pk pn) H) (hPM : va_P (dC, dI) vwCl (mW g0 gp gr gm gl gw gn cI pv nc tr tm tp nt wv nr re nm np pk pn) H) (hDX : va_D (fun q : Nat => s.heap.size ≤ q) (xW h0 qa qr qt cI cJ av (20 + nc) rv nr tv nt pk pn)) (hDM : va_D (fun q : Nat => s.heap.size ≤ q) (mW g0 gp gr gm gl gw gn cI pv nc tr tm tp nt wv nr re nm np pk pn)) (hS : va_S (fun q : Nat => s.heap.size ≤ q) s.heap H locs) {ls : Array Slot} (hl : lv_has ls 4 [(0, .ref b), (1, .ref h0), (2, .ref g0), (3, .int (nI i))]) : W p l e room_1 s m #[Value.ref b] below meth c H locs 11 4037 (lw_Z below #[Value.ref b] s) (F0 m 270 ls []) := by
  obtain ⟨hx, hb, hr, hml, hown, hts0, hX, hbl, hlocks, hgv⟩ := C0
  have hts := fun w h => hts0 w (wsL_law_in w h)
  have hA : ∀ q : Nat, s.heap.size ≤ q → (fun q : Nat => s.heap.size ≤ q) q := fun _ h => h
  have hbA : ¬ (fun q : Nat => s.heap.size ≤ q) b := Nat.not_le.mpr hbl
  have hKm : va_K (dC, dI) vwCl [(cI, .int)] s := hK.sub [0] rfl
  obtain ⟨bl, pr, tR, tM, tP, hI⟩ := hRel
  obtain ⟨hnc, hAV, hBL, hPV, hnr, hrw, hnt, hTY⟩ := id hI
  have hnk : 20 ≤ 20 + nc ∧ 20 + nc ≤ 32 := ⟨by omega, by omega⟩
  have hnw := hnr
  have hmt := hnt
  have hTM : kTM tm tM nt := kTY_TM hTY
  have hTP : kTP tr tp tM nt := kTY_TP hnc hTY
  refine lv_aload_n hx hb dL_law_270 rfl (lv_at hl 1 rfl) ?_
  refine lv_aload_n hx hb dL_law_271 rfl (lv_at hl 0 rfl) ?_
  refine lv_iload_n hx hb dL_law_272 rfl (lv_at hl 3 rfl) ?_
  refine lv_iconst (v := 1) hx hb dL_law_273 (by decide) ?_
  refine lv_iadd hx hb dL_law_274 ?_
  refine kv_topi (y := nI (i + 1)) (nI_add i 1) ?_
  refine va_sld hx hb hX hbl hbA hS (vp_in_nI (by omega) (by omega)) dL_law_275 ?_
  refine kv_topi (y := xs (i + 1)) (by rw [nI_clamp (by omega)]) ?_
  refine lv_aload_n hx hb dL_law_276 rfl (lv_at hl 0 rfl) ?_
  refine lv_iload_n hx hb dL_law_277 rfl (lv_at hl 3 rfl) ?_
  refine lv_iconst (v := 2) hx hb dL_law_278 (by decide) ?_
  refine lv_iadd hx hb dL_law_279 ?_
  refine kv_topi (y := nI (i + 2)) (nI_add i 2) ?_
  refine va_sld hx hb hX hbl hbA hS (vp_in_nI (by omega) (by omega)) dL_law_280 ?_
  refine kv_topi (y := xs (i + 2)) (by rw [nI_clamp (by omega)]) ?_
  refine lv_aload_n hx hb dL_law_281 rfl (lv_at hl 0 rfl) ?_
  refine lv_iload_n hx hb dL_law_282 rfl (lv_at hl 3 rfl) ?_
  refine lv_iconst (v := 3) hx hb dL_law_283 (by decide) ?_
  refine lv_iadd hx hb dL_law_284 ?_
  refine kv_topi (y := nI (i + 3)) (nI_add i 3) ?_
  refine va_sld hx hb hX hbl hbA hS (vp_in_nI (by omega) (by omega)) dL_law_285 ?_
  refine kv_topi (y := xs (i + 3)) (by rw [nI_clamp (by omega)]) ?_
  refine lv_if_eq (tgt := 293) hx hb dL_law_286 (by decide) (fun c286 => ?_) (fun c286 => ?_)
  · refine lv_iconst (v := 0) hx hb dL_law_293 (by decide) ?_
    refine lv_aload_n hx hb dL_law_294 rfl (lv_at hl 0 rfl) ?_
    refine lv_iload_n hx hb dL_law_295 rfl (lv_at hl 3 rfl) ?_
    refine lv_iconst (v := 4) hx hb dL_law_296 (by decide) ?_
    refine lv_iadd hx hb dL_law_297 ?_
    refine kv_topi (y := nI (i + 4)) (nI_add i 4) ?_
    refine va_sld hx hb hX hbl hbA hS (vp_in_nI (by omega) (by omega)) dL_law_298 ?_
    refine kv_topi (y := xs (i + 4)) (by rw [nI_clamp (by omega)]) ?_
    refine lv_aload_n hx hb dL_law_299 rfl (lv_at hl 0 rfl) ?_
    refine lv_iload_n hx hb dL_law_300 rfl (lv_at hl 3 rfl) ?_
    refine lv_iconst (v := 5) hx hb dL_law_301 (by decide) ?_
    refine lv_iadd hx hb dL_law_302 ?_
    refine kv_topi (y := nI (i + 5)) (nI_add i 5) ?_
    refine va_sld hx hb hX hbl hbA hS (vp_in_nI (by omega) (by omega)) dL_law_303 ?_
    refine kv_topi (y := xs (i + 5)) (by rw [nI_clamp (by omega)]) ?_
    refine lv_i2l hx hb dL_law_304 rfl ?_
    refine lv_bipush (v := 32) hx hb dL_law_305 (by decide) ?_
    refine lv_lshl hx hb dL_law_307 rfl ?_
    refine lv_aload_n hx hb dL_law_308 rfl (lv_at hl 0 rfl) ?_
    refine lv_iload_n hx hb dL_law_309 rfl (lv_at hl 3 rfl) ?_
    refine lv_bipush (v := 6) hx hb dL_law_310 (by decide) ?_
    refine lv_iadd hx hb dL_law_312 ?_
    refine kv_topi (y := nI (i + 6)) (nI_add i 6) ?_
    refine va_sld hx hb hX hbl hbA hS (vp_in_nI (by omega) (by omega)) dL_law_313 ?_
    refine kv_topi (y := xs (i + 6)) (by rw [nI_clamp (by omega)]) ?_
    refine lv_i2l hx hb dL_law_314 rfl ?_
    refine lv_ldc2 (v := 4294967295) hx hb hown (hts0 (.constantLong RL 33 4294967295) (by decide +kernel)) dL_law_315 ?_
    refine lv_land hx hb dL_law_318 ?_
    refine lv_lor hx hb dL_law_319 ?_
    refine kc_W [.int (xs (i + 1)), .int (xs (i + 2)), .int 0, .int (xs (i + 4)), .long ((((xs (i + 5)).toInt64) <<< ((32 : Int32).toInt64 &&& 63)) ||| (((xs (i + 6)).toInt64) &&& (4294967295 : Int64)))] [] ⟨hx, hb, hml, hown, hts⟩ (cX_pass l dC dI h0 qa qr qt cI cJ av (20 + nc) rv nr tv nt pk pn bl (xs (i + 1)) (xs (i + 2)) false (xs (i + 4)) ((((xs (i + 5)).toInt64) <<< ((32 : Int32).toInt64 &&& 63)) ||| (((xs (i + 6)).toInt64) &&& (4294967295 : Int64))) hAV hnk) (cwV 5 hts gL_law_X0_pass rfl rfl rfl (by decide +kernel) ⟨(Nat.le_of_ble_eq_true rfl), (Nat.le_of_ble_eq_true rfl)⟩) hPX hK hDX hS rfl (ci := 0) (q0 := 0) rfl rfl rfl rfl hl.1 rfl (Nat.le_of_ble_eq_true rfl) dL_law_320 ⟨(Nat.le_of_ble_eq_true rfl), (Nat.le_of_ble_eq_true rfl)⟩ (fun H locs hP1 hS hk1 => ?_)
    have hPM : va_P (dC, dI) vwCl (mW g0 gp gr gm gl gw gn cI pv nc tr tm tp nt wv nr re nm np pk pn) H := kP_kept hPM rfl hdM hk1
    have hPX : va_P (dC, dI) vwCl (xW h0 qa qr qt cI cJ av (20 + nc) rv nr tv nt ((fX_pass (20 + nc) pk pn bl (xs (i + 1)) (xs (i + 2)) false (xs (i + 4)) ((((xs (i + 5)).toInt64) <<< ((32 : Int32).toInt64 &&& 63)) ||| (((xs (i + 6)).toInt64) &&& (4294967295 : Int64)))).2.1) ((fX_pass (20 + nc) pk pn bl (xs (i + 1)) (xs (i + 2)) false (xs (i + 4)) ((((xs (i + 5)).toInt64) <<< ((32 : Int32).toInt64 &&& 63)) ||| (((xs (i + 6)).toInt64) &&& (4294967295 : Int64)))).2.2)) H := hP1
    have hDX : va_D (fun q : Nat => s.heap.size ≤ q) (xW h0 qa qr qt cI cJ av (20 + nc) rv nr tv nt ((fX_pass (20 + nc) pk pn bl (xs (i + 1)) (xs (i + 2)) false (xs (i + 4)) ((((xs (i + 5)).toInt64) <<< ((32 : Int32).toInt64 &&& 63)) ||| (((xs (i + 6)).toInt64) &&& (4294967295 : Int64)))).2.1) ((fX_pass (20 + nc) pk pn bl (xs (i + 1)) (xs (i + 2)) false (xs (i + 4)) ((((xs (i + 5)).toInt64) <<< ((32 : Int32).toInt64 &&& 63)) ||| (((xs (i + 6)).toInt64) &&& (4294967295 : Int64)))).2.2)) := kD_same hDX rfl
    refine lv_aload_n hx hb dL_law_323 rfl (lv_at hl 2 rfl) ?_
    refine lv_aload_n hx hb dL_law_324 rfl (lv_at hl 0 rfl) ?_
    refine lv_iload_n hx hb dL_law_325 rfl (lv_at hl 3 rfl) ?_
    refine lv_iconst (v := 1) hx hb dL_law_326 (by decide) ?_
    refine lv_iadd hx hb dL_law_327 ?_
    refine kv_topi (y := nI (i + 1)) (nI_add i 1) ?_
    refine va_sld hx hb hX hbl hbA hS (vp_in_nI (by omega) (by omega)) dL_law_328 ?_
    refine kv_topi (y := xs (i + 1)) (by rw [nI_clamp (by omega)]) ?_
    refine lv_aload_n hx hb dL_law_329 rfl (lv_at hl 0 rfl) ?_
    refine lv_iload_n hx hb dL_law_330 rfl (lv_at hl 3 rfl) ?_
    refine lv_iconst (v := 2) hx hb dL_law_331 (by decide) ?_
    refine lv_iadd hx hb dL_law_332 ?_
    refine kv_topi (y := nI (i + 2)) (nI_add i 2) ?_
    refine va_sld hx hb hX hbl hbA hS (vp_in_nI (by omega) (by omega)) dL_law_333 ?_
    refine kv_topi (y := xs (i + 2)) (by rw [nI_clamp (by omega)]) ?_
    refine lv_aload_n hx hb dL_law_334 rfl (lv_at hl 0 rfl) ?_
    refine lv_iload_n hx hb dL_law_335 rfl (lv_at hl 3 rfl) ?_
    refine lv_iconst (v := 3) hx hb dL_law_336 (by decide) ?_
    refine lv_iadd hx hb dL_law_337 ?_
    refine kv_topi (y := nI (i + 3)) (nI_add i 3) ?_
    refine va_sld hx hb hX hbl hbA hS (vp_in_nI (by omega) (by omega)) dL_law_338 ?_
    refine kv_topi (y := xs (i + 3)) (by rw [nI_clamp (by omega)]) ?_
    refine lv_if_eq (tgt := 346) hx hb dL_law_339 (by decide) (fun c339 => ?_) (fun c339 => ?_)
    · refine lv_iconst (v := 0) hx hb dL_law_346 (by decide) ?_
      refine lv_aload_n hx hb dL_law_347 rfl (lv_at hl 0 rfl) ?_
      refine lv_iload_n hx hb dL_law_348 rfl (lv_at hl 3 rfl) ?_
      refine lv_iconst (v := 4) hx hb dL_law_349 (by decide) ?_
      refine lv_iadd hx hb dL_law_350 ?_
      refine kv_topi (y := nI (i + 4)) (nI_add i 4) ?_
      refine va_sld hx hb hX hbl hbA hS (vp_in_nI (by omega) (by omega)) dL_law_351 ?_
      refine kv_topi (y := xs (i + 4)) (by rw [nI_clamp (by omega)]) ?_
      refine lv_aload_n hx hb dL_law_352 rfl (lv_at hl 0 rfl) ?_
      refine lv_iload_n hx hb dL_law_353 rfl (lv_at hl 3 rfl) ?_
      refine lv_iconst (v := 5) hx hb dL_law_354 (by decide) ?_
      refine lv_iadd hx hb dL_law_355 ?_
      refine kv_topi (y := nI (i + 5)) (nI_add i 5) ?_
      refine va_sld hx hb hX hbl hbA hS (vp_in_nI (by omega) (by omega)) dL_law_356 ?_
      refine kv_topi (y := xs (i + 5)) (by rw [nI_clamp (by omega)]) ?_
      refine lv_i2l hx hb dL_law_357 rfl ?_
      refine lv_bipush (v := 32) hx hb dL_law_358 (by decide) ?_
      refine lv_lshl hx hb dL_law_360 rfl ?_
      refine lv_aload_n hx hb dL_law_361 rfl (lv_at hl 0 rfl) ?_
      refine lv_iload_n hx hb dL_law_362 rfl (lv_at hl 3 rfl) ?_
      refine lv_bipush (v := 6) hx hb dL_law_363 (by decide) ?_
      refine lv_iadd hx hb dL_law_365 ?_
      refine kv_topi (y := nI (i + 6)) (nI_add i 6) ?_
      refine va_sld hx hb hX hbl hbA hS (vp_in_nI (by omega) (by omega)) dL_law_366 ?_
      refine kv_topi (y := xs (i + 6)) (by rw [nI_clamp (by omega)]) ?_
      refine lv_i2l hx hb dL_law_367 rfl ?_
      refine lv_ldc2 (v := 4294967295) hx hb hown (hts0 (.constantLong RL 33 4294967295) (by decide +kernel)) dL_law_368 ?_
      refine lv_land hx hb dL_law_371 ?_
      refine lv_lor hx hb dL_law_372 ?_
      refine kc_W [.int (xs (i + 1)), .int (xs (i + 2)), .int 0, .int (xs (i + 4)), .long ((((xs (i + 5)).toInt64) <<< ((32 : Int32).toInt64 &&& 63)) ||| (((xs (i + 6)).toInt64) &&& (4294967295 : Int64)))] [.int ((fX_pass (20 + nc) pk pn bl (xs (i + 1)) (xs (i + 2)) false (xs (i + 4)) ((((xs (i + 5)).toInt64) <<< ((32 : Int32).toInt64 &&& 63)) ||| (((xs (i + 6)).toInt64) &&& (4294967295 : Int64)))).1)] ⟨hx, hb, hml, hown, hts0⟩ (cM_pass l dC dI g0 gp gr gm gl gw gn cI pv nc tr tm tp nt wv nr re nm np pk pn bl pr (xs (i + 1)) (xs (i + 2)) false (xs (i + 4)) ((((xs (i + 5)).toInt64) <<< ((32 : Int32).toInt64 &&& 63)) ||| (((xs (i + 6)).toInt64) &&& (4294967295 : Int64))) hPV hBL hnc) (cwV 5 hts0 gZL_pass rfl rfl rfl (by decide +kernel) ⟨(Nat.le_of_ble_eq_true rfl), (Nat.le_of_ble_eq_true rfl)⟩) hPM hKm hDM hS rfl (ci := 1) (q0 := 0) rfl rfl rfl rfl hl.1 rfl (Nat.le_of_ble_eq_true rfl) dL_law_373 ⟨(Nat.le_of_ble_eq_true rfl), (Nat.le_of_ble_eq_true rfl)⟩ (fun H locs hP1 hS hk1 => ?_)
      have hPX : va_P (dC, dI) vwCl (xW h0 qa qr qt cI cJ av (20 + nc) rv nr tv nt ((fX_pass (20 + nc) pk pn bl (xs (i + 1)) (xs (i + 2)) false (xs (i + 4)) ((((xs (i + 5)).toInt64) <<< ((32 : Int32).toInt64 &&& 63)) ||| (((xs (i + 6)).toInt64) &&& (4294967295 : Int64)))).2.1) ((fX_pass (20 + nc) pk pn bl (xs (i + 1)) (xs (i + 2)) false (xs (i + 4)) ((((xs (i + 5)).toInt64) <<< ((32 : Int32).toInt64 &&& 63)) ||| (((xs (i + 6)).toInt64) &&& (4294967295 : Int64)))).2.2)) H := kP_kept hPX rfl hdX hk1
      have hPM : va_P (dC, dI) vwCl (mW g0 gp gr gm gl gw gn cI pv nc tr tm tp nt wv nr re nm np ((fM_pass nc pk pn bl (xs (i + 1)) (xs (i + 2)) false (xs (i + 4)) ((((xs (i + 5)).toInt64) <<< ((32 : Int32).toInt64 &&& 63)) ||| (((xs (i + 6)).toInt64) &&& (4294967295 : Int64)))).2.1) ((fM_pass nc pk pn bl (xs (i + 1)) (xs (i + 2)) false (xs (i + 4)) ((((xs (i + 5)).toInt64) <<< ((32 : Int32).toInt64 &&& 63)) ||| (((xs (i + 6)).toInt64) &&& (4294967295 : Int64)))).2.2)) H := hP1
      have hDM : va_D (fun q : Nat => s.heap.size ≤ q) (mW g0 gp gr gm gl gw gn cI pv nc tr tm tp nt wv nr re nm np ((fM_pass nc pk pn bl (xs (i + 1)) (xs (i + 2)) false (xs (i + 4)) ((((xs (i + 5)).toInt64) <<< ((32 : Int32).toInt64 &&& 63)) ||| (((xs (i + 6)).toInt64) &&& (4294967295 : Int64)))).2.1) ((fM_pass nc pk pn bl (xs (i + 1)) (xs (i + 2)) false (xs (i + 4)) ((((xs (i + 5)).toInt64) <<< ((32 : Int32).toInt64 &&& 63)) ||| (((xs (i + 6)).toInt64) &&& (4294967295 : Int64)))).2.2)) := kD_same hDM rfl
      refine lv_icmp_eq (tgt := 599) hx hb dL_law_376 (by decide) (fun c376 => ?_) (fun c376 => ?_)
      · refine lv_iinc (v := nI (i + 7)) (lv' := [(3, .int (nI (i + 7))), (0, .ref b), (1, .ref h0), (2, .ref g0)]) hx hb dL_law_599 hl (k := 3) rfl (nI_add i 7) (by decide) rfl (fun ls hl => ?_)
        refine lv_goto (tgt := 18) hx hb dL_law_602 (by decide) ?_
        have hk := fun z => eq_pass (bl := bl) hnc pk pn (xs (i + 1)) (xs (i + 2)) false (xs (i + 4)) z
        rw [hk] at hPX hDX
        exact ih _ _ _ _ _ _ _ _ _ _ _ _ _ _ _ _ ⟨bl, pr, tR, tM, tP, hI⟩ H locs hPX hPM hDX hDM hS ls (lv_sub hl [1, 2, 3, 0] rfl)
      · exact absurd (congrArg Prod.fst (eq_pass (bl := bl) hnc pk pn (xs (i + 1)) (xs (i + 2)) false (xs (i + 4)) _)) c376
    · exact absurd c286 c339
  · refine lv_iconst (v := 1) hx hb dL_law_289 (by decide) ?_
    refine lv_goto (tgt := 294) hx hb dL_law_290 (by decide) ?_
    refine lv_aload_n hx hb dL_law_294 rfl (lv_at hl 0 rfl) ?_
    refine lv_iload_n hx hb dL_law_295 rfl (lv_at hl 3 rfl) ?_
    refine lv_iconst (v := 4) hx hb dL_law_296 (by decide) ?_
    refine lv_iadd hx hb dL_law_297 ?_
    refine kv_topi (y := nI (i + 4)) (nI_add i 4) ?_
    refine va_sld hx hb hX hbl hbA hS (vp_in_nI (by omega) (by omega)) dL_law_298 ?_
    refine kv_topi (y := xs (i + 4)) (by rw [nI_clamp (by omega)]) ?_
    refine lv_aload_n hx hb dL_law_299 rfl (lv_at hl 0 rfl) ?_
    refine lv_iload_n hx hb dL_law_300 rfl (lv_at hl 3 rfl) ?_
    refine lv_iconst (v := 5) hx hb dL_law_301 (by decide) ?_
    refine lv_iadd hx hb dL_law_302 ?_
    refine kv_topi (y := nI (i + 5)) (nI_add i 5) ?_
    refine va_sld hx hb hX hbl hbA hS (vp_in_nI (by omega) (by omega)) dL_law_303 ?_
    refine kv_topi (y := xs (i + 5)) (by rw [nI_clamp (by omega)]) ?_
    refine lv_i2l hx hb dL_law_304 rfl ?_
    refine lv_bipush (v := 32) hx hb dL_law_305 (by decide) ?_
    refine lv_lshl hx hb dL_law_307 rfl ?_
    refine lv_aload_n hx hb dL_law_308 rfl (lv_at hl 0 rfl) ?_
    refine lv_iload_n hx hb dL_law_309 rfl (lv_at hl 3 rfl) ?_
    refine lv_bipush (v := 6) hx hb dL_law_310 (by decide) ?_
    refine lv_iadd hx hb dL_law_312 ?_
    refine kv_topi (y := nI (i + 6)) (nI_add i 6) ?_
    refine va_sld hx hb hX hbl hbA hS (vp_in_nI (by omega) (by omega)) dL_law_313 ?_
    refine kv_topi (y := xs (i + 6)) (by rw [nI_clamp (by omega)]) ?_
    refine lv_i2l hx hb dL_law_314 rfl ?_
    refine lv_ldc2 (v := 4294967295) hx hb hown (hts0 (.constantLong RL 33 4294967295) (by decide +kernel)) dL_law_315 ?_
    refine lv_land hx hb dL_law_318 ?_
    refine lv_lor hx hb dL_law_319 ?_
    refine kc_W [.int (xs (i + 1)), .int (xs (i + 2)), .int 1, .int (xs (i + 4)), .long ((((xs (i + 5)).toInt64) <<< ((32 : Int32).toInt64 &&& 63)) ||| (((xs (i + 6)).toInt64) &&& (4294967295 : Int64)))] [] ⟨hx, hb, hml, hown, hts⟩ (cX_pass l dC dI h0 qa qr qt cI cJ av (20 + nc) rv nr tv nt pk pn bl (xs (i + 1)) (xs (i + 2)) true (xs (i + 4)) ((((xs (i + 5)).toInt64) <<< ((32 : Int32).toInt64 &&& 63)) ||| (((xs (i + 6)).toInt64) &&& (4294967295 : Int64))) hAV hnk) (cwV 5 hts gL_law_X0_pass rfl rfl rfl (by decide +kernel) ⟨(Nat.le_of_ble_eq_true rfl), (Nat.le_of_ble_eq_true rfl)⟩) hPX hK hDX hS rfl (ci := 0) (q0 := 0) rfl rfl rfl rfl hl.1 rfl (Nat.le_of_ble_eq_true rfl) dL_law_320 ⟨(Nat.le_of_ble_eq_true rfl), (Nat.le_of_ble_eq_true rfl)⟩ (fun H locs hP1 hS hk1 => ?_)
    have hPM : va_P (dC, dI) vwCl (mW g0 gp gr gm gl gw gn cI pv nc tr tm tp nt wv nr re nm np pk pn) H := kP_kept hPM rfl hdM hk1
    have hPX : va_P (dC, dI) vwCl (xW h0 qa qr qt cI cJ av (20 + nc) rv nr tv nt ((fX_pass (20 + nc) pk pn bl (xs (i + 1)) (xs (i + 2)) true (xs (i + 4)) ((((xs (i + 5)).toInt64) <<< ((32 : Int32).toInt64 &&& 63)) ||| (((xs (i + 6)).toInt64) &&& (4294967295 : Int64)))).2.1) ((fX_pass (20 + nc) pk pn bl (xs (i + 1)) (xs (i + 2)) true (xs (i + 4)) ((((xs (i + 5)).toInt64) <<< ((32 : Int32).toInt64 &&& 63)) ||| (((xs (i + 6)).toInt64) &&& (4294967295 : Int64)))).2.2)) H := hP1
    have hDX : va_D (fun q : Nat => s.heap.size ≤ q) (xW h0 qa qr qt cI cJ av (20 + nc) rv nr tv nt ((fX_pass (20 + nc) pk pn bl (xs (i + 1)) (xs (i + 2)) true (xs (i + 4)) ((((xs (i + 5)).toInt64) <<< ((32 : Int32).toInt64 &&& 63)) ||| (((xs (i + 6)).toInt64) &&& (4294967295 : Int64)))).2.1) ((fX_pass (20 + nc) pk pn bl (xs (i + 1)) (xs (i + 2)) true (xs (i + 4)) ((((xs (i + 5)).toInt64) <<< ((32 : Int32).toInt64 &&& 63)) ||| (((xs (i + 6)).toInt64) &&& (4294967295 : Int64)))).2.2)) := kD_same hDX rfl
    refine lv_aload_n hx hb dL_law_323 rfl (lv_at hl 2 rfl) ?_
    refine lv_aload_n hx hb dL_law_324 rfl (lv_at hl 0 rfl) ?_
    refine lv_iload_n hx hb dL_law_325 rfl (lv_at hl 3 rfl) ?_
    refine lv_iconst (v := 1) hx hb dL_law_326 (by decide) ?_
    refine lv_iadd hx hb dL_law_327 ?_
    refine kv_topi (y := nI (i + 1)) (nI_add i 1) ?_
    refine va_sld hx hb hX hbl hbA hS (vp_in_nI (by omega) (by omega)) dL_law_328 ?_
    refine kv_topi (y := xs (i + 1)) (by rw [nI_clamp (by omega)]) ?_
    refine lv_aload_n hx hb dL_law_329 rfl (lv_at hl 0 rfl) ?_
    refine lv_iload_n hx hb dL_law_330 rfl (lv_at hl 3 rfl) ?_
    refine lv_iconst (v := 2) hx hb dL_law_331 (by decide) ?_
    refine lv_iadd hx hb dL_law_332 ?_
    refine kv_topi (y := nI (i + 2)) (nI_add i 2) ?_
    refine va_sld hx hb hX hbl hbA hS (vp_in_nI (by omega) (by omega)) dL_law_333 ?_
    refine kv_topi (y := xs (i + 2)) (by rw [nI_clamp (by omega)]) ?_
    refine lv_aload_n hx hb dL_law_334 rfl (lv_at hl 0 rfl) ?_
    refine lv_iload_n hx hb dL_law_335 rfl (lv_at hl 3 rfl) ?_
    refine lv_iconst (v := 3) hx hb dL_law_336 (by decide) ?_
    refine lv_iadd hx hb dL_law_337 ?_
    refine kv_topi (y := nI (i + 3)) (nI_add i 3) ?_
    refine va_sld hx hb hX hbl hbA hS (vp_in_nI (by omega) (by omega)) dL_law_338 ?_
    refine kv_topi (y := xs (i + 3)) (by rw [nI_clamp (by omega)]) ?_
    refine lv_if_eq (tgt := 346) hx hb dL_law_339 (by decide) (fun c339 => ?_) (fun c339 => ?_)
    · exact absurd c339 c286
    · refine lv_iconst (v := 1) hx hb dL_law_342 (by decide) ?_
      refine lv_goto (tgt := 347) hx hb dL_law_343 (by decide) ?_
      refine lv_aload_n hx hb dL_law_347 rfl (lv_at hl 0 rfl) ?_
      refine lv_iload_n hx hb dL_law_348 rfl (lv_at hl 3 rfl) ?_
      refine lv_iconst (v := 4) hx hb dL_law_349 (by decide) ?_
      refine lv_iadd hx hb dL_law_350 ?_
      refine kv_topi (y := nI (i + 4)) (nI_add i 4) ?_
      refine va_sld hx hb hX hbl hbA hS (vp_in_nI (by omega) (by omega)) dL_law_351 ?_
      refine kv_topi (y := xs (i + 4)) (by rw [nI_clamp (by omega)]) ?_
      refine lv_aload_n hx hb dL_law_352 rfl (lv_at hl 0 rfl) ?_
      refine lv_iload_n hx hb dL_law_353 rfl (lv_at hl 3 rfl) ?_
      refine lv_iconst (v := 5) hx hb dL_law_354 (by decide) ?_
      refine lv_iadd hx hb dL_law_355 ?_
      refine kv_topi (y := nI (i + 5)) (nI_add i 5) ?_
      refine va_sld hx hb hX hbl hbA hS (vp_in_nI (by omega) (by omega)) dL_law_356 ?_
      refine kv_topi (y := xs (i + 5)) (by rw [nI_clamp (by omega)]) ?_
      refine lv_i2l hx hb dL_law_357 rfl ?_
      refine lv_bipush (v := 32) hx hb dL_law_358 (by decide) ?_
      refine lv_lshl hx hb dL_law_360 rfl ?_
      refine lv_aload_n hx hb dL_law_361 rfl (lv_at hl 0 rfl) ?_
      refine lv_iload_n hx hb dL_law_362 rfl (lv_at hl 3 rfl) ?_
      refine lv_bipush (v := 6) hx hb dL_law_363 (by decide) ?_
      refine lv_iadd hx hb dL_law_365 ?_
      refine kv_topi (y := nI (i + 6)) (nI_add i 6) ?_
      refine va_sld hx hb hX hbl hbA hS (vp_in_nI (by omega) (by omega)) dL_law_366 ?_
      refine kv_topi (y := xs (i + 6)) (by rw [nI_clamp (by omega)]) ?_
      refine lv_i2l hx hb dL_law_367 rfl ?_
      refine lv_ldc2 (v := 4294967295) hx hb hown (hts0 (.constantLong RL 33 4294967295) (by decide +kernel)) dL_law_368 ?_
      refine lv_land hx hb dL_law_371 ?_
      refine lv_lor hx hb dL_law_372 ?_
      refine kc_W [.int (xs (i + 1)), .int (xs (i + 2)), .int 1, .int (xs (i + 4)), .long ((((xs (i + 5)).toInt64) <<< ((32 : Int32).toInt64 &&& 63)) ||| (((xs (i + 6)).toInt64) &&& (4294967295 : Int64)))] [.int ((fX_pass (20 + nc) pk pn bl (xs (i + 1)) (xs (i + 2)) true (xs (i + 4)) ((((xs (i + 5)).toInt64) <<< ((32 : Int32).toInt64 &&& 63)) ||| (((xs (i + 6)).toInt64) &&& (4294967295 : Int64)))).1)] ⟨hx, hb, hml, hown, hts0⟩ (cM_pass l dC dI g0 gp gr gm gl gw gn cI pv nc tr tm tp nt wv nr re nm np pk pn bl pr (xs (i + 1)) (xs (i + 2)) true (xs (i + 4)) ((((xs (i + 5)).toInt64) <<< ((32 : Int32).toInt64 &&& 63)) ||| (((xs (i + 6)).toInt64) &&& (4294967295 : Int64))) hPV hBL hnc) (cwV 5 hts0 gZL_pass rfl rfl rfl (by decide +kernel) ⟨(Nat.le_of_ble_eq_true rfl), (Nat.le_of_ble_eq_true rfl)⟩) hPM hKm hDM hS rfl (ci := 1) (q0 := 0) rfl rfl rfl rfl hl.1 rfl (Nat.le_of_ble_eq_true rfl) dL_law_373 ⟨(Nat.le_of_ble_eq_true rfl), (Nat.le_of_ble_eq_true rfl)⟩ (fun H locs hP1 hS hk1 => ?_)
      have hPX : va_P (dC, dI) vwCl (xW h0 qa qr qt cI cJ av (20 + nc) rv nr tv nt ((fX_pass (20 + nc) pk pn bl (xs (i + 1)) (xs (i + 2)) true (xs (i + 4)) ((((xs (i + 5)).toInt64) <<< ((32 : Int32).toInt64 &&& 63)) ||| (((xs (i + 6)).toInt64) &&& (4294967295 : Int64)))).2.1) ((fX_pass (20 + nc) pk pn bl (xs (i + 1)) (xs (i + 2)) true (xs (i + 4)) ((((xs (i + 5)).toInt64) <<< ((32 : Int32).toInt64 &&& 63)) ||| (((xs (i + 6)).toInt64) &&& (4294967295 : Int64)))).2.2)) H := kP_kept hPX rfl hdX hk1
      have hPM : va_P (dC, dI) vwCl (mW g0 gp gr gm gl gw gn cI pv nc tr tm tp nt wv nr re nm np ((fM_pass nc pk pn bl (xs (i + 1)) (xs (i + 2)) true (xs (i + 4)) ((((xs (i + 5)).toInt64) <<< ((32 : Int32).toInt64 &&& 63)) ||| (((xs (i + 6)).toInt64) &&& (4294967295 : Int64)))).2.1) ((fM_pass nc pk pn bl (xs (i + 1)) (xs (i + 2)) true (xs (i + 4)) ((((xs (i + 5)).toInt64) <<< ((32 : Int32).toInt64 &&& 63)) ||| (((xs (i + 6)).toInt64) &&& (4294967295 : Int64)))).2.2)) H := hP1
      have hDM : va_D (fun q : Nat => s.heap.size ≤ q) (mW g0 gp gr gm gl gw gn cI pv nc tr tm tp nt wv nr re nm np ((fM_pass nc pk pn bl (xs (i + 1)) (xs (i + 2)) true (xs (i + 4)) ((((xs (i + 5)).toInt64) <<< ((32 : Int32).toInt64 &&& 63)) ||| (((xs (i + 6)).toInt64) &&& (4294967295 : Int64)))).2.1) ((fM_pass nc pk pn bl (xs (i + 1)) (xs (i + 2)) true (xs (i + 4)) ((((xs (i + 5)).toInt64) <<< ((32 : Int32).toInt64 &&& 63)) ||| (((xs (i + 6)).toInt64) &&& (4294967295 : Int64)))).2.2)) := kD_same hDM rfl
      refine lv_icmp_eq (tgt := 599) hx hb dL_law_376 (by decide) (fun c376 => ?_) (fun c376 => ?_)
      · refine lv_iinc (v := nI (i + 7)) (lv' := [(3, .int (nI (i + 7))), (0, .ref b), (1, .ref h0), (2, .ref g0)]) hx hb dL_law_599 hl (k := 3) rfl (nI_add i 7) (by decide) rfl (fun ls hl => ?_)
        refine lv_goto (tgt := 18) hx hb dL_law_602 (by decide) ?_
        have hk := fun z => eq_pass (bl := bl) hnc pk pn (xs (i + 1)) (xs (i + 2)) true (xs (i + 4)) z
        rw [hk] at hPX hDX
        exact ih _ _ _ _ _ _ _ _ _ _ _ _ _ _ _ _ ⟨bl, pr, tR, tM, tP, hI⟩ H locs hPX hPM hDX hDM hS ls (lv_sub hl [1, 2, 3, 0] rfl)
      · exact absurd (congrArg Prod.fst (eq_pass (bl := bl) hnc pk pn (xs (i + 1)) (xs (i + 2)) true (xs (i + 4)) _)) c376
set_option maxHeartbeats 8000000 in
set_option maxRecDepth 100000 in
theorem law_kind {p : Program} {l : Launch} {e : Env} {s : State} {m : MethodId} {below : List Frame} {meth : Method} {c : Code} {dC : Nat → ClassId} {dI : Nat → Nat → Nat} {b L : Nat} {xs : Nat → Int32} {h0 qa qr qt g0 gp gr gm gl gw gn : Nat} {cI cJ : ClassId} (C0 : lw_At p s m meth c b L xs) (hdM : ∀ q : Nat, q ∈ [g0, gp, gr, gm, gl, gw, gn] → q ∉ [h0, qa, qr, qt]) (hdX : ∀ q : Nat, q ∈ [h0, qa, qr, qt] → q ∉ [g0, gp, gr, gm, gl, gw, gn]) (hK : va_K (dC, dI) vwCl [(cI, .int), (cJ, .long)] s) (hL : L ≤ 3584) {i : Nat} (hi7 : i + 7 ≤ L) (ih : ∀ (av : Nat → Int32) (nc : Nat) (rv : Nat → Int32) (nr : Nat) (tv : Nat → Int64) (nt : Nat) (pk : Int32) (pn : Int64) (pv : Nat → Int32) (tr : Nat → Int32) (tm : Nat → Int32) (tp : Nat → Int32) (wv : Nat → Int32) (re : Int32) (nm : Nat) (np : Nat → Int32), kRel av nc rv nr tv nt pv tr tm tp wv → ∀ (H : Heap) (locs : List Loc), va_P (dC, dI) vwCl (xW h0 qa qr qt cI cJ av (20 + nc) rv nr tv nt pk pn) H → va_P (dC, dI) vwCl (mW g0 gp gr gm gl gw gn cI pv nc tr tm tp nt wv nr re nm np pk pn) H → va_D (fun q : Nat => s.heap.size ≤ q) (xW h0 qa qr qt cI cJ av (20 + nc) rv nr tv nt pk pn) → va_D (fun q : Nat => s.heap.size ≤ q) (mW g0 gp gr gm gl gw gn cI pv nc tr tm tp nt wv nr re nm np pk pn) → va_S (fun q : Nat => s.heap.size ≤ q) s.heap H locs → ∀ (ls : Array Slot), lv_has ls 4 [(0, .ref b), (1, .ref h0), (2, .ref g0), (3, .int (nI (i + 7)))] → W p l e room_1 s m #[Value.ref b] below meth c H locs 11 4037 (lw_Z below #[Value.ref b] s) (F0 m 18 ls [])) {av : Nat → Int32} {nc : Nat} {rv : Nat → Int32} {nr : Nat} {tv : Nat → Int64} {nt : Nat} {pk : Int32} {pn : Int64} {pv : Nat → Int32} {tr : Nat → Int32} {tm : Nat → Int32} {tp : Nat → Int32} {wv : Nat → Int32} {re : Int32} {nm : Nat} {np : Nat → Int32} (hRel : kRel av nc rv nr tv nt pv tr tm tp wv) {H : Heap} {locs : List Loc} (hPX : va_P (dC, dI) vwCl (xW h0 qa qr qt cI cJ av (20 + nc) rv nr tv nt pk pn) H) (hPM : va_P (dC, dI) vwCl (mW g0 gp gr gm gl gw gn cI pv nc tr tm tp nt wv nr re nm np pk pn) H) (hDX : va_D (fun q : Nat => s.heap.size ≤ q) (xW h0 qa qr qt cI cJ av (20 + nc) rv nr tv nt pk pn)) (hDM : va_D (fun q : Nat => s.heap.size ≤ q) (mW g0 gp gr gm gl gw gn cI pv nc tr tm tp nt wv nr re nm np pk pn)) (hS : va_S (fun q : Nat => s.heap.size ≤ q) s.heap H locs) {ls : Array Slot} (hl : lv_has ls 4 [(0, .ref b), (1, .ref h0), (2, .ref g0), (3, .int (nI i))]) : W p l e room_1 s m #[Value.ref b] below meth c H locs 11 4037 (lw_Z below #[Value.ref b] s) (F0 m 381 ls []) := by
  obtain ⟨hx, hb, hr, hml, hown, hts0, hX, hbl, hlocks, hgv⟩ := C0
  have hts := fun w h => hts0 w (wsL_law_in w h)
  have hA : ∀ q : Nat, s.heap.size ≤ q → (fun q : Nat => s.heap.size ≤ q) q := fun _ h => h
  have hbA : ¬ (fun q : Nat => s.heap.size ≤ q) b := Nat.not_le.mpr hbl
  have hKm : va_K (dC, dI) vwCl [(cI, .int)] s := hK.sub [0] rfl
  obtain ⟨bl, pr, tR, tM, tP, hI⟩ := hRel
  obtain ⟨hnc, hAV, hBL, hPV, hnr, hrw, hnt, hTY⟩ := id hI
  have hnk : 20 ≤ 20 + nc ∧ 20 + nc ≤ 32 := ⟨by omega, by omega⟩
  have hnw := hnr
  have hmt := hnt
  have hTM : kTM tm tM nt := kTY_TM hTY
  have hTP : kTP tr tp tM nt := kTY_TP hnc hTY
  refine lv_aload_n hx hb dL_law_381 rfl (lv_at hl 1 rfl) ?_
  refine kc_R [] [] ⟨hx, hb, hml, hown, hts⟩ (cX_kind l dC dI h0 qa qr qt cI cJ av (20 + nc) rv nr tv nt pk pn) (cwV 0 hts gL_law_X0_kind rfl rfl rfl (by decide +kernel) ⟨(Nat.le_of_ble_eq_true rfl), (Nat.le_of_ble_eq_true rfl)⟩) hPX hK (ci := 0) (q0 := 0) rfl rfl rfl rfl hl.1 rfl (Nat.le_of_ble_eq_true rfl) dL_law_382 ⟨(Nat.le_of_ble_eq_true rfl), (Nat.le_of_ble_eq_true rfl)⟩ ?_
  refine lv_aload_n hx hb dL_law_385 rfl (lv_at hl 2 rfl) ?_
  refine kc_R [] [.int (fX_kind pk)] ⟨hx, hb, hml, hown, hts0⟩ (cM_kind l dC dI g0 gp gr gm gl gw gn cI pv nc tr tm tp nt wv nr re nm np pk pn) (cwV 0 hts0 gZL_kind rfl rfl rfl (by decide +kernel) ⟨(Nat.le_of_ble_eq_true rfl), (Nat.le_of_ble_eq_true rfl)⟩) hPM hKm (ci := 1) (q0 := 0) rfl rfl rfl rfl hl.1 rfl (Nat.le_of_ble_eq_true rfl) dL_law_386 ⟨(Nat.le_of_ble_eq_true rfl), (Nat.le_of_ble_eq_true rfl)⟩ ?_
  refine lv_icmp_eq (tgt := 599) hx hb dL_law_389 (by decide) (fun c389 => ?_) (fun c389 => ?_)
  · refine lv_iinc (v := nI (i + 7)) (lv' := [(3, .int (nI (i + 7))), (0, .ref b), (1, .ref h0), (2, .ref g0)]) hx hb dL_law_599 hl (k := 3) rfl (nI_add i 7) (by decide) rfl (fun ls hl => ?_)
    refine lv_goto (tgt := 18) hx hb dL_law_602 (by decide) ?_
    exact ih _ _ _ _ _ _ _ _ _ _ _ _ _ _ _ _ ⟨bl, pr, tR, tM, tP, hI⟩ H locs hPX hPM hDX hDM hS ls (lv_sub hl [1, 2, 3, 0] rfl)
  · exact absurd (rfl) c389
set_option maxHeartbeats 8000000 in
set_option maxRecDepth 100000 in
theorem law_number {p : Program} {l : Launch} {e : Env} {s : State} {m : MethodId} {below : List Frame} {meth : Method} {c : Code} {dC : Nat → ClassId} {dI : Nat → Nat → Nat} {b L : Nat} {xs : Nat → Int32} {h0 qa qr qt g0 gp gr gm gl gw gn : Nat} {cI cJ : ClassId} (C0 : lw_At p s m meth c b L xs) (hdM : ∀ q : Nat, q ∈ [g0, gp, gr, gm, gl, gw, gn] → q ∉ [h0, qa, qr, qt]) (hdX : ∀ q : Nat, q ∈ [h0, qa, qr, qt] → q ∉ [g0, gp, gr, gm, gl, gw, gn]) (hK : va_K (dC, dI) vwCl [(cI, .int), (cJ, .long)] s) (hL : L ≤ 3584) {i : Nat} (hi7 : i + 7 ≤ L) (ih : ∀ (av : Nat → Int32) (nc : Nat) (rv : Nat → Int32) (nr : Nat) (tv : Nat → Int64) (nt : Nat) (pk : Int32) (pn : Int64) (pv : Nat → Int32) (tr : Nat → Int32) (tm : Nat → Int32) (tp : Nat → Int32) (wv : Nat → Int32) (re : Int32) (nm : Nat) (np : Nat → Int32), kRel av nc rv nr tv nt pv tr tm tp wv → ∀ (H : Heap) (locs : List Loc), va_P (dC, dI) vwCl (xW h0 qa qr qt cI cJ av (20 + nc) rv nr tv nt pk pn) H → va_P (dC, dI) vwCl (mW g0 gp gr gm gl gw gn cI pv nc tr tm tp nt wv nr re nm np pk pn) H → va_D (fun q : Nat => s.heap.size ≤ q) (xW h0 qa qr qt cI cJ av (20 + nc) rv nr tv nt pk pn) → va_D (fun q : Nat => s.heap.size ≤ q) (mW g0 gp gr gm gl gw gn cI pv nc tr tm tp nt wv nr re nm np pk pn) → va_S (fun q : Nat => s.heap.size ≤ q) s.heap H locs → ∀ (ls : Array Slot), lv_has ls 4 [(0, .ref b), (1, .ref h0), (2, .ref g0), (3, .int (nI (i + 7)))] → W p l e room_1 s m #[Value.ref b] below meth c H locs 11 4037 (lw_Z below #[Value.ref b] s) (F0 m 18 ls [])) {av : Nat → Int32} {nc : Nat} {rv : Nat → Int32} {nr : Nat} {tv : Nat → Int64} {nt : Nat} {pk : Int32} {pn : Int64} {pv : Nat → Int32} {tr : Nat → Int32} {tm : Nat → Int32} {tp : Nat → Int32} {wv : Nat → Int32} {re : Int32} {nm : Nat} {np : Nat → Int32} (hRel : kRel av nc rv nr tv nt pv tr tm tp wv) {H : Heap} {locs : List Loc} (hPX : va_P (dC, dI) vwCl (xW h0 qa qr qt cI cJ av (20 + nc) rv nr tv nt pk pn) H) (hPM : va_P (dC, dI) vwCl (mW g0 gp gr gm gl gw gn cI pv nc tr tm tp nt wv nr re nm np pk pn) H) (hDX : va_D (fun q : Nat => s.heap.size ≤ q) (xW h0 qa qr qt cI cJ av (20 + nc) rv nr tv nt pk pn)) (hDM : va_D (fun q : Nat => s.heap.size ≤ q) (mW g0 gp gr gm gl gw gn cI pv nc tr tm tp nt wv nr re nm np pk pn)) (hS : va_S (fun q : Nat => s.heap.size ≤ q) s.heap H locs) {ls : Array Slot} (hl : lv_has ls 4 [(0, .ref b), (1, .ref h0), (2, .ref g0), (3, .int (nI i))]) : W p l e room_1 s m #[Value.ref b] below meth c H locs 11 4037 (lw_Z below #[Value.ref b] s) (F0 m 394 ls []) := by
  obtain ⟨hx, hb, hr, hml, hown, hts0, hX, hbl, hlocks, hgv⟩ := C0
  have hts := fun w h => hts0 w (wsL_law_in w h)
  have hA : ∀ q : Nat, s.heap.size ≤ q → (fun q : Nat => s.heap.size ≤ q) q := fun _ h => h
  have hbA : ¬ (fun q : Nat => s.heap.size ≤ q) b := Nat.not_le.mpr hbl
  have hKm : va_K (dC, dI) vwCl [(cI, .int)] s := hK.sub [0] rfl
  obtain ⟨bl, pr, tR, tM, tP, hI⟩ := hRel
  obtain ⟨hnc, hAV, hBL, hPV, hnr, hrw, hnt, hTY⟩ := id hI
  have hnk : 20 ≤ 20 + nc ∧ 20 + nc ≤ 32 := ⟨by omega, by omega⟩
  have hnw := hnr
  have hmt := hnt
  have hTM : kTM tm tM nt := kTY_TM hTY
  have hTP : kTP tr tp tM nt := kTY_TP hnc hTY
  refine lv_aload_n hx hb dL_law_394 rfl (lv_at hl 1 rfl) ?_
  refine kc_R [] [] ⟨hx, hb, hml, hown, hts⟩ (cX_number l dC dI h0 qa qr qt cI cJ av (20 + nc) rv nr tv nt pk pn) (cwV 0 hts gL_law_X0_number rfl rfl rfl (by decide +kernel) ⟨(Nat.le_of_ble_eq_true rfl), (Nat.le_of_ble_eq_true rfl)⟩) hPX hK (ci := 0) (q0 := 0) rfl rfl rfl rfl hl.1 rfl (Nat.le_of_ble_eq_true rfl) dL_law_395 ⟨(Nat.le_of_ble_eq_true rfl), (Nat.le_of_ble_eq_true rfl)⟩ ?_
  refine lv_aload_n hx hb dL_law_398 rfl (lv_at hl 2 rfl) ?_
  refine kc_R [] [.long (fX_number pn)] ⟨hx, hb, hml, hown, hts0⟩ (cM_number l dC dI g0 gp gr gm gl gw gn cI pv nc tr tm tp nt wv nr re nm np pk pn) (cwV 0 hts0 gZL_number rfl rfl rfl (by decide +kernel) ⟨(Nat.le_of_ble_eq_true rfl), (Nat.le_of_ble_eq_true rfl)⟩) hPM hKm (ci := 1) (q0 := 0) rfl rfl rfl rfl hl.1 rfl (Nat.le_of_ble_eq_true rfl) dL_law_399 ⟨(Nat.le_of_ble_eq_true rfl), (Nat.le_of_ble_eq_true rfl)⟩ ?_
  refine W.lcmp hx hb dL_law_402 ?_
  refine lv_if_eq (tgt := 599) hx hb dL_law_403 (by decide) (fun c403 => ?_) (fun c403 => ?_)
  · refine lv_iinc (v := nI (i + 7)) (lv' := [(3, .int (nI (i + 7))), (0, .ref b), (1, .ref h0), (2, .ref g0)]) hx hb dL_law_599 hl (k := 3) rfl (nI_add i 7) (by decide) rfl (fun ls hl => ?_)
    refine lv_goto (tgt := 18) hx hb dL_law_602 (by decide) ?_
    exact ih _ _ _ _ _ _ _ _ _ _ _ _ _ _ _ _ ⟨bl, pr, tR, tM, tP, hI⟩ H locs hPX hPM hDX hDM hS ls (lv_sub hl [1, 2, 3, 0] rfl)
  · exact absurd (lgc0.mpr rfl) c403
set_option maxHeartbeats 8000000 in
set_option maxRecDepth 100000 in
theorem law_put {p : Program} {l : Launch} {e : Env} {s : State} {m : MethodId} {below : List Frame} {meth : Method} {c : Code} {dC : Nat → ClassId} {dI : Nat → Nat → Nat} {b L : Nat} {xs : Nat → Int32} {h0 qa qr qt g0 gp gr gm gl gw gn : Nat} {cI cJ : ClassId} (C0 : lw_At p s m meth c b L xs) (hdM : ∀ q : Nat, q ∈ [g0, gp, gr, gm, gl, gw, gn] → q ∉ [h0, qa, qr, qt]) (hdX : ∀ q : Nat, q ∈ [h0, qa, qr, qt] → q ∉ [g0, gp, gr, gm, gl, gw, gn]) (hK : va_K (dC, dI) vwCl [(cI, .int), (cJ, .long)] s) (hL : L ≤ 3584) {i : Nat} (hi7 : i + 7 ≤ L) (ih : ∀ (av : Nat → Int32) (nc : Nat) (rv : Nat → Int32) (nr : Nat) (tv : Nat → Int64) (nt : Nat) (pk : Int32) (pn : Int64) (pv : Nat → Int32) (tr : Nat → Int32) (tm : Nat → Int32) (tp : Nat → Int32) (wv : Nat → Int32) (re : Int32) (nm : Nat) (np : Nat → Int32), kRel av nc rv nr tv nt pv tr tm tp wv → ∀ (H : Heap) (locs : List Loc), va_P (dC, dI) vwCl (xW h0 qa qr qt cI cJ av (20 + nc) rv nr tv nt pk pn) H → va_P (dC, dI) vwCl (mW g0 gp gr gm gl gw gn cI pv nc tr tm tp nt wv nr re nm np pk pn) H → va_D (fun q : Nat => s.heap.size ≤ q) (xW h0 qa qr qt cI cJ av (20 + nc) rv nr tv nt pk pn) → va_D (fun q : Nat => s.heap.size ≤ q) (mW g0 gp gr gm gl gw gn cI pv nc tr tm tp nt wv nr re nm np pk pn) → va_S (fun q : Nat => s.heap.size ≤ q) s.heap H locs → ∀ (ls : Array Slot), lv_has ls 4 [(0, .ref b), (1, .ref h0), (2, .ref g0), (3, .int (nI (i + 7)))] → W p l e room_1 s m #[Value.ref b] below meth c H locs 11 4037 (lw_Z below #[Value.ref b] s) (F0 m 18 ls [])) {av : Nat → Int32} {nc : Nat} {rv : Nat → Int32} {nr : Nat} {tv : Nat → Int64} {nt : Nat} {pk : Int32} {pn : Int64} {pv : Nat → Int32} {tr : Nat → Int32} {tm : Nat → Int32} {tp : Nat → Int32} {wv : Nat → Int32} {re : Int32} {nm : Nat} {np : Nat → Int32} (hRel : kRel av nc rv nr tv nt pv tr tm tp wv) {H : Heap} {locs : List Loc} (hPX : va_P (dC, dI) vwCl (xW h0 qa qr qt cI cJ av (20 + nc) rv nr tv nt pk pn) H) (hPM : va_P (dC, dI) vwCl (mW g0 gp gr gm gl gw gn cI pv nc tr tm tp nt wv nr re nm np pk pn) H) (hDX : va_D (fun q : Nat => s.heap.size ≤ q) (xW h0 qa qr qt cI cJ av (20 + nc) rv nr tv nt pk pn)) (hDM : va_D (fun q : Nat => s.heap.size ≤ q) (mW g0 gp gr gm gl gw gn cI pv nc tr tm tp nt wv nr re nm np pk pn)) (hS : va_S (fun q : Nat => s.heap.size ≤ q) s.heap H locs) {ls : Array Slot} (hl : lv_has ls 4 [(0, .ref b), (1, .ref h0), (2, .ref g0), (3, .int (nI i))]) : W p l e room_1 s m #[Value.ref b] below meth c H locs 11 4037 (lw_Z below #[Value.ref b] s) (F0 m 408 ls []) := by
  obtain ⟨hx, hb, hr, hml, hown, hts0, hX, hbl, hlocks, hgv⟩ := C0
  have hts := fun w h => hts0 w (wsL_law_in w h)
  have hA : ∀ q : Nat, s.heap.size ≤ q → (fun q : Nat => s.heap.size ≤ q) q := fun _ h => h
  have hbA : ¬ (fun q : Nat => s.heap.size ≤ q) b := Nat.not_le.mpr hbl
  have hKm : va_K (dC, dI) vwCl [(cI, .int)] s := hK.sub [0] rfl
  obtain ⟨bl, pr, tR, tM, tP, hI⟩ := hRel
  obtain ⟨hnc, hAV, hBL, hPV, hnr, hrw, hnt, hTY⟩ := id hI
  have hnk : 20 ≤ 20 + nc ∧ 20 + nc ≤ 32 := ⟨by omega, by omega⟩
  have hnw := hnr
  have hmt := hnt
  have hTM : kTM tm tM nt := kTY_TM hTY
  have hTP : kTP tr tp tM nt := kTY_TP hnc hTY
  refine lv_aload_n hx hb dL_law_408 rfl (lv_at hl 1 rfl) ?_
  refine lv_aload_n hx hb dL_law_409 rfl (lv_at hl 0 rfl) ?_
  refine lv_iload_n hx hb dL_law_410 rfl (lv_at hl 3 rfl) ?_
  refine lv_iconst (v := 1) hx hb dL_law_411 (by decide) ?_
  refine lv_iadd hx hb dL_law_412 ?_
  refine kv_topi (y := nI (i + 1)) (nI_add i 1) ?_
  refine va_sld hx hb hX hbl hbA hS (vp_in_nI (by omega) (by omega)) dL_law_413 ?_
  refine kv_topi (y := xs (i + 1)) (by rw [nI_clamp (by omega)]) ?_
  refine kc_W [.int (xs (i + 1))] [] ⟨hx, hb, hml, hown, hts⟩ (cX_put l dC dI h0 qa qr qt cI cJ av (20 + nc) rv nr tv nt pk pn (xs (i + 1)) hnr) (cwV 1 hts gL_law_X0_put rfl rfl rfl (by decide +kernel) ⟨(Nat.le_of_ble_eq_true rfl), (Nat.le_of_ble_eq_true rfl)⟩) hPX hK hDX hS rfl (ci := 0) (q0 := 0) rfl rfl rfl rfl hl.1 rfl (Nat.le_of_ble_eq_true rfl) dL_law_414 ⟨(Nat.le_of_ble_eq_true rfl), (Nat.le_of_ble_eq_true rfl)⟩ (fun H locs hP1 hS hk1 => ?_)
  have hPM : va_P (dC, dI) vwCl (mW g0 gp gr gm gl gw gn cI pv nc tr tm tp nt wv nr re nm np pk pn) H := kP_kept hPM rfl hdM hk1
  have hPX : va_P (dC, dI) vwCl (xW h0 qa qr qt cI cJ av (20 + nc) ((fX_put rv nr (xs (i + 1))).2.1) ((fX_put rv nr (xs (i + 1))).2.2) tv nt pk pn) H := hP1
  have hDX : va_D (fun q : Nat => s.heap.size ≤ q) (xW h0 qa qr qt cI cJ av (20 + nc) ((fX_put rv nr (xs (i + 1))).2.1) ((fX_put rv nr (xs (i + 1))).2.2) tv nt pk pn) := kD_same hDX rfl
  refine lv_aload_n hx hb dL_law_417 rfl (lv_at hl 2 rfl) ?_
  refine lv_aload_n hx hb dL_law_418 rfl (lv_at hl 0 rfl) ?_
  refine lv_iload_n hx hb dL_law_419 rfl (lv_at hl 3 rfl) ?_
  refine lv_iconst (v := 1) hx hb dL_law_420 (by decide) ?_
  refine lv_iadd hx hb dL_law_421 ?_
  refine kv_topi (y := nI (i + 1)) (nI_add i 1) ?_
  refine va_sld hx hb hX hbl hbA hS (vp_in_nI (by omega) (by omega)) dL_law_422 ?_
  refine kv_topi (y := xs (i + 1)) (by rw [nI_clamp (by omega)]) ?_
  refine kc_W [.int (xs (i + 1))] [.int (bI ((fX_put rv nr (xs (i + 1))).1))] ⟨hx, hb, hml, hown, hts0⟩ (cM_put l dC dI g0 gp gr gm gl gw gn cI pv nc tr tm tp nt wv nr re nm np pk pn (xs (i + 1)) hnw) (cwV 1 hts0 gZL_put rfl rfl rfl (by decide +kernel) ⟨(Nat.le_of_ble_eq_true rfl), (Nat.le_of_ble_eq_true rfl)⟩) hPM hKm hDM hS rfl (ci := 1) (q0 := 0) rfl rfl rfl rfl hl.1 rfl (Nat.le_of_ble_eq_true rfl) dL_law_423 ⟨(Nat.le_of_ble_eq_true rfl), (Nat.le_of_ble_eq_true rfl)⟩ (fun H locs hP1 hS hk1 => ?_)
  have hPX : va_P (dC, dI) vwCl (xW h0 qa qr qt cI cJ av (20 + nc) ((fX_put rv nr (xs (i + 1))).2.1) ((fX_put rv nr (xs (i + 1))).2.2) tv nt pk pn) H := kP_kept hPX rfl hdX hk1
  have hPM : va_P (dC, dI) vwCl (mW g0 gp gr gm gl gw gn cI pv nc tr tm tp nt ((fM_put wv nr (xs (i + 1))).2.1) ((fM_put wv nr (xs (i + 1))).2.2) re nm np pk pn) H := hP1
  have hDM : va_D (fun q : Nat => s.heap.size ≤ q) (mW g0 gp gr gm gl gw gn cI pv nc tr tm tp nt ((fM_put wv nr (xs (i + 1))).2.1) ((fM_put wv nr (xs (i + 1))).2.2) re nm np pk pn) := kD_same hDM rfl
  refine lv_icmp_eq (tgt := 599) hx hb dL_law_426 (by decide) (fun c426 => ?_) (fun c426 => ?_)
  · refine lv_iinc (v := nI (i + 7)) (lv' := [(3, .int (nI (i + 7))), (0, .ref b), (1, .ref h0), (2, .ref g0)]) hx hb dL_law_599 hl (k := 3) rfl (nI_add i 7) (by decide) rfl (fun ls hl => ?_)
    refine lv_goto (tgt := 18) hx hb dL_law_602 (by decide) ?_
    have hk := eq_put hI (xs (i + 1))
    rw [hk.2.1] at hPX hDX
    exact ih _ _ _ _ _ _ _ _ _ _ _ _ _ _ _ _ hk.2.2 H locs hPX hPM hDX hDM hS ls (lv_sub hl [1, 2, 3, 0] rfl)
  · exact absurd (congrArg bI (eq_put hI (xs (i + 1))).1) c426
set_option maxHeartbeats 8000000 in
set_option maxRecDepth 100000 in
theorem law_type {p : Program} {l : Launch} {e : Env} {s : State} {m : MethodId} {below : List Frame} {meth : Method} {c : Code} {dC : Nat → ClassId} {dI : Nat → Nat → Nat} {b L : Nat} {xs : Nat → Int32} {h0 qa qr qt g0 gp gr gm gl gw gn : Nat} {cI cJ : ClassId} (C0 : lw_At p s m meth c b L xs) (hdM : ∀ q : Nat, q ∈ [g0, gp, gr, gm, gl, gw, gn] → q ∉ [h0, qa, qr, qt]) (hdX : ∀ q : Nat, q ∈ [h0, qa, qr, qt] → q ∉ [g0, gp, gr, gm, gl, gw, gn]) (hK : va_K (dC, dI) vwCl [(cI, .int), (cJ, .long)] s) (hL : L ≤ 3584) {i : Nat} (hi7 : i + 7 ≤ L) (ih : ∀ (av : Nat → Int32) (nc : Nat) (rv : Nat → Int32) (nr : Nat) (tv : Nat → Int64) (nt : Nat) (pk : Int32) (pn : Int64) (pv : Nat → Int32) (tr : Nat → Int32) (tm : Nat → Int32) (tp : Nat → Int32) (wv : Nat → Int32) (re : Int32) (nm : Nat) (np : Nat → Int32), kRel av nc rv nr tv nt pv tr tm tp wv → ∀ (H : Heap) (locs : List Loc), va_P (dC, dI) vwCl (xW h0 qa qr qt cI cJ av (20 + nc) rv nr tv nt pk pn) H → va_P (dC, dI) vwCl (mW g0 gp gr gm gl gw gn cI pv nc tr tm tp nt wv nr re nm np pk pn) H → va_D (fun q : Nat => s.heap.size ≤ q) (xW h0 qa qr qt cI cJ av (20 + nc) rv nr tv nt pk pn) → va_D (fun q : Nat => s.heap.size ≤ q) (mW g0 gp gr gm gl gw gn cI pv nc tr tm tp nt wv nr re nm np pk pn) → va_S (fun q : Nat => s.heap.size ≤ q) s.heap H locs → ∀ (ls : Array Slot), lv_has ls 4 [(0, .ref b), (1, .ref h0), (2, .ref g0), (3, .int (nI (i + 7)))] → W p l e room_1 s m #[Value.ref b] below meth c H locs 11 4037 (lw_Z below #[Value.ref b] s) (F0 m 18 ls [])) {av : Nat → Int32} {nc : Nat} {rv : Nat → Int32} {nr : Nat} {tv : Nat → Int64} {nt : Nat} {pk : Int32} {pn : Int64} {pv : Nat → Int32} {tr : Nat → Int32} {tm : Nat → Int32} {tp : Nat → Int32} {wv : Nat → Int32} {re : Int32} {nm : Nat} {np : Nat → Int32} (hRel : kRel av nc rv nr tv nt pv tr tm tp wv) {H : Heap} {locs : List Loc} (hPX : va_P (dC, dI) vwCl (xW h0 qa qr qt cI cJ av (20 + nc) rv nr tv nt pk pn) H) (hPM : va_P (dC, dI) vwCl (mW g0 gp gr gm gl gw gn cI pv nc tr tm tp nt wv nr re nm np pk pn) H) (hDX : va_D (fun q : Nat => s.heap.size ≤ q) (xW h0 qa qr qt cI cJ av (20 + nc) rv nr tv nt pk pn)) (hDM : va_D (fun q : Nat => s.heap.size ≤ q) (mW g0 gp gr gm gl gw gn cI pv nc tr tm tp nt wv nr re nm np pk pn)) (hS : va_S (fun q : Nat => s.heap.size ≤ q) s.heap H locs) {ls : Array Slot} (hl : lv_has ls 4 [(0, .ref b), (1, .ref h0), (2, .ref g0), (3, .int (nI i))]) : W p l e room_1 s m #[Value.ref b] below meth c H locs 11 4037 (lw_Z below #[Value.ref b] s) (F0 m 431 ls []) := by
  obtain ⟨hx, hb, hr, hml, hown, hts0, hX, hbl, hlocks, hgv⟩ := C0
  have hts := fun w h => hts0 w (wsL_law_in w h)
  have hA : ∀ q : Nat, s.heap.size ≤ q → (fun q : Nat => s.heap.size ≤ q) q := fun _ h => h
  have hbA : ¬ (fun q : Nat => s.heap.size ≤ q) b := Nat.not_le.mpr hbl
  have hKm : va_K (dC, dI) vwCl [(cI, .int)] s := hK.sub [0] rfl
  obtain ⟨bl, pr, tR, tM, tP, hI⟩ := hRel
  obtain ⟨hnc, hAV, hBL, hPV, hnr, hrw, hnt, hTY⟩ := id hI
  have hnk : 20 ≤ 20 + nc ∧ 20 + nc ≤ 32 := ⟨by omega, by omega⟩
  have hnw := hnr
  have hmt := hnt
  have hTM : kTM tm tM nt := kTY_TM hTY
  have hTP : kTP tr tp tM nt := kTY_TP hnc hTY
  refine lv_aload_n hx hb dL_law_431 rfl (lv_at hl 1 rfl) ?_
  refine lv_aload_n hx hb dL_law_432 rfl (lv_at hl 0 rfl) ?_
  refine lv_iload_n hx hb dL_law_433 rfl (lv_at hl 3 rfl) ?_
  refine lv_iconst (v := 1) hx hb dL_law_434 (by decide) ?_
  refine lv_iadd hx hb dL_law_435 ?_
  refine kv_topi (y := nI (i + 1)) (nI_add i 1) ?_
  refine va_sld hx hb hX hbl hbA hS (vp_in_nI (by omega) (by omega)) dL_law_436 ?_
  refine kv_topi (y := xs (i + 1)) (by rw [nI_clamp (by omega)]) ?_
  refine kc_W [.int (xs (i + 1))] [] ⟨hx, hb, hml, hown, hts⟩ (cX_type l dC dI h0 qa qr qt cI cJ av (20 + nc) rv nr tv nt pk pn (xs (i + 1)) hnt hnr) (cwV 1 hts gL_law_X0_type rfl rfl rfl (by decide +kernel) ⟨(Nat.le_of_ble_eq_true rfl), (Nat.le_of_ble_eq_true rfl)⟩) hPX hK hDX hS rfl (ci := 0) (q0 := 0) rfl rfl rfl rfl hl.1 rfl (Nat.le_of_ble_eq_true rfl) dL_law_437 ⟨(Nat.le_of_ble_eq_true rfl), (Nat.le_of_ble_eq_true rfl)⟩ (fun H locs hP1 hS hk1 => ?_)
  have hPM : va_P (dC, dI) vwCl (mW g0 gp gr gm gl gw gn cI pv nc tr tm tp nt wv nr re nm np pk pn) H := kP_kept hPM rfl hdM hk1
  have hPX : va_P (dC, dI) vwCl (xW h0 qa qr qt cI cJ av (20 + nc) rv 0 (if fX_typeOK (20 + nc) rv nr (xs (i + 1)) = true then (nbV (fnd (fun zz => decide (tv zz = (tyb rv (xs (i + 1)).toInt64 nr))) nt 0) nt tv (vp_updL tv nt (tyb rv (xs (i + 1)).toInt64 nr))) else tv) (if fX_typeOK (20 + nc) rv nr (xs (i + 1)) = true then (nbN (fnd (fun zz => decide (tv zz = (tyb rv (xs (i + 1)).toInt64 nr))) nt 0) nt) else nt) pk pn) H := hP1
  have hDX : va_D (fun q : Nat => s.heap.size ≤ q) (xW h0 qa qr qt cI cJ av (20 + nc) rv 0 (if fX_typeOK (20 + nc) rv nr (xs (i + 1)) = true then (nbV (fnd (fun zz => decide (tv zz = (tyb rv (xs (i + 1)).toInt64 nr))) nt 0) nt tv (vp_updL tv nt (tyb rv (xs (i + 1)).toInt64 nr))) else tv) (if fX_typeOK (20 + nc) rv nr (xs (i + 1)) = true then (nbN (fnd (fun zz => decide (tv zz = (tyb rv (xs (i + 1)).toInt64 nr))) nt 0) nt) else nt) pk pn) := kD_same hDX rfl
  refine lv_aload_n hx hb dL_law_440 rfl (lv_at hl 2 rfl) ?_
  refine lv_aload_n hx hb dL_law_441 rfl (lv_at hl 0 rfl) ?_
  refine lv_iload_n hx hb dL_law_442 rfl (lv_at hl 3 rfl) ?_
  refine lv_iconst (v := 1) hx hb dL_law_443 (by decide) ?_
  refine lv_iadd hx hb dL_law_444 ?_
  refine kv_topi (y := nI (i + 1)) (nI_add i 1) ?_
  refine va_sld hx hb hX hbl hbA hS (vp_in_nI (by omega) (by omega)) dL_law_445 ?_
  refine kv_topi (y := xs (i + 1)) (by rw [nI_clamp (by omega)]) ?_
  refine kc_W [.int (xs (i + 1))] [.int (if fX_typeOK (20 + nc) rv nr (xs (i + 1)) = true then nbR (fnd (fun zz => decide (tv zz = tyb rv (xs (i + 1)).toInt64 nr)) nt 0) nt else (-1 : Int32))] ⟨hx, hb, hml, hown, hts0⟩ (cM_type l dC dI g0 gp gr gm gl gw gn cI pv nc tr tm tp nt wv nr re nm np pk pn (xs (i + 1)) hmt hnw) (cwV 1 hts0 gZL_type rfl rfl rfl (by decide +kernel) ⟨(Nat.le_of_ble_eq_true rfl), (Nat.le_of_ble_eq_true rfl)⟩) hPM hKm hDM hS rfl (ci := 1) (q0 := 0) rfl rfl rfl rfl hl.1 rfl (Nat.le_of_ble_eq_true rfl) dL_law_446 ⟨(Nat.le_of_ble_eq_true rfl), (Nat.le_of_ble_eq_true rfl)⟩ (fun H locs hP1 hS hk1 => ?_)
  have hPX : va_P (dC, dI) vwCl (xW h0 qa qr qt cI cJ av (20 + nc) rv 0 (if fX_typeOK (20 + nc) rv nr (xs (i + 1)) = true then (nbV (fnd (fun zz => decide (tv zz = (tyb rv (xs (i + 1)).toInt64 nr))) nt 0) nt tv (vp_updL tv nt (tyb rv (xs (i + 1)).toInt64 nr))) else tv) (if fX_typeOK (20 + nc) rv nr (xs (i + 1)) = true then (nbN (fnd (fun zz => decide (tv zz = (tyb rv (xs (i + 1)).toInt64 nr))) nt 0) nt) else nt) pk pn) H := kP_kept hPX rfl hdX hk1
  have hPM : va_P (dC, dI) vwCl (mW g0 gp gr gm gl gw gn cI pv nc (if fM_typeOK nc wv nr (xs (i + 1)) = true then (if nr ≤ 10 then nbV (fnd (fQ tr tm tp (npC np wv nr) (xs (i + 1)) nr) nt 0) nt tr (upd tr nt (xs (i + 1))) else tr) else tr) (if fM_typeOK nc wv nr (xs (i + 1)) = true then (if nr ≤ 10 then nbV (fnd (fQ tr tm tp (npC np wv nr) (xs (i + 1)) nr) nt 0) nt tm (upd tm nt (nI nr)) else tm) else tm) (if fM_typeOK nc wv nr (xs (i + 1)) = true then (if nr ≤ 10 then nbV (fnd (fQ tr tm tp (npC np wv nr) (xs (i + 1)) nr) nt 0) nt tp (tpC tp (npC np wv nr) nt nr) else tp) else tp) (if fM_typeOK nc wv nr (xs (i + 1)) = true then (if nr ≤ 10 then nbN (fnd (fQ tr tm tp (npC np wv nr) (xs (i + 1)) nr) nt 0) nt else nt) else nt) wv 0 (if fM_typeOK nc wv nr (xs (i + 1)) = true then xs (i + 1) else re) (if fM_typeOK nc wv nr (xs (i + 1)) = true then nr else nm) (if fM_typeOK nc wv nr (xs (i + 1)) = true then (npC np wv nr) else np) pk pn) H := hP1
  have hDM : va_D (fun q : Nat => s.heap.size ≤ q) (mW g0 gp gr gm gl gw gn cI pv nc (if fM_typeOK nc wv nr (xs (i + 1)) = true then (if nr ≤ 10 then nbV (fnd (fQ tr tm tp (npC np wv nr) (xs (i + 1)) nr) nt 0) nt tr (upd tr nt (xs (i + 1))) else tr) else tr) (if fM_typeOK nc wv nr (xs (i + 1)) = true then (if nr ≤ 10 then nbV (fnd (fQ tr tm tp (npC np wv nr) (xs (i + 1)) nr) nt 0) nt tm (upd tm nt (nI nr)) else tm) else tm) (if fM_typeOK nc wv nr (xs (i + 1)) = true then (if nr ≤ 10 then nbV (fnd (fQ tr tm tp (npC np wv nr) (xs (i + 1)) nr) nt 0) nt tp (tpC tp (npC np wv nr) nt nr) else tp) else tp) (if fM_typeOK nc wv nr (xs (i + 1)) = true then (if nr ≤ 10 then nbN (fnd (fQ tr tm tp (npC np wv nr) (xs (i + 1)) nr) nt 0) nt else nt) else nt) wv 0 (if fM_typeOK nc wv nr (xs (i + 1)) = true then xs (i + 1) else re) (if fM_typeOK nc wv nr (xs (i + 1)) = true then nr else nm) (if fM_typeOK nc wv nr (xs (i + 1)) = true then (npC np wv nr) else np) pk pn) := kD_same hDM rfl
  refine lv_icmp_eq (tgt := 599) hx hb dL_law_449 (by decide) (fun c449 => ?_) (fun c449 => ?_)
  · refine lv_iinc (v := nI (i + 7)) (lv' := [(3, .int (nI (i + 7))), (0, .ref b), (1, .ref h0), (2, .ref g0)]) hx hb dL_law_599 hl (k := 3) rfl (nI_add i 7) (by decide) rfl (fun ls hl => ?_)
    refine lv_goto (tgt := 18) hx hb dL_law_602 (by decide) ?_
    have hk := eq_type hI re nm np (xs (i + 1))
    rw [hk.2.1] at hPX hDX
    exact ih _ _ _ _ _ _ _ _ _ _ _ _ _ _ _ _ hk.2.2 H locs hPX hPM hDX hDM hS ls (lv_sub hl [1, 2, 3, 0] rfl)
  · exact absurd ((eq_type hI re nm np (xs (i + 1))).1) c449
set_option maxHeartbeats 8000000 in
set_option maxRecDepth 100000 in
theorem law_typeAbout {p : Program} {l : Launch} {e : Env} {s : State} {m : MethodId} {below : List Frame} {meth : Method} {c : Code} {dC : Nat → ClassId} {dI : Nat → Nat → Nat} {b L : Nat} {xs : Nat → Int32} {h0 qa qr qt g0 gp gr gm gl gw gn : Nat} {cI cJ : ClassId} (C0 : lw_At p s m meth c b L xs) (hdM : ∀ q : Nat, q ∈ [g0, gp, gr, gm, gl, gw, gn] → q ∉ [h0, qa, qr, qt]) (hdX : ∀ q : Nat, q ∈ [h0, qa, qr, qt] → q ∉ [g0, gp, gr, gm, gl, gw, gn]) (hK : va_K (dC, dI) vwCl [(cI, .int), (cJ, .long)] s) (hL : L ≤ 3584) {i : Nat} (hi7 : i + 7 ≤ L) (ih : ∀ (av : Nat → Int32) (nc : Nat) (rv : Nat → Int32) (nr : Nat) (tv : Nat → Int64) (nt : Nat) (pk : Int32) (pn : Int64) (pv : Nat → Int32) (tr : Nat → Int32) (tm : Nat → Int32) (tp : Nat → Int32) (wv : Nat → Int32) (re : Int32) (nm : Nat) (np : Nat → Int32), kRel av nc rv nr tv nt pv tr tm tp wv → ∀ (H : Heap) (locs : List Loc), va_P (dC, dI) vwCl (xW h0 qa qr qt cI cJ av (20 + nc) rv nr tv nt pk pn) H → va_P (dC, dI) vwCl (mW g0 gp gr gm gl gw gn cI pv nc tr tm tp nt wv nr re nm np pk pn) H → va_D (fun q : Nat => s.heap.size ≤ q) (xW h0 qa qr qt cI cJ av (20 + nc) rv nr tv nt pk pn) → va_D (fun q : Nat => s.heap.size ≤ q) (mW g0 gp gr gm gl gw gn cI pv nc tr tm tp nt wv nr re nm np pk pn) → va_S (fun q : Nat => s.heap.size ≤ q) s.heap H locs → ∀ (ls : Array Slot), lv_has ls 4 [(0, .ref b), (1, .ref h0), (2, .ref g0), (3, .int (nI (i + 7)))] → W p l e room_1 s m #[Value.ref b] below meth c H locs 11 4037 (lw_Z below #[Value.ref b] s) (F0 m 18 ls [])) {av : Nat → Int32} {nc : Nat} {rv : Nat → Int32} {nr : Nat} {tv : Nat → Int64} {nt : Nat} {pk : Int32} {pn : Int64} {pv : Nat → Int32} {tr : Nat → Int32} {tm : Nat → Int32} {tp : Nat → Int32} {wv : Nat → Int32} {re : Int32} {nm : Nat} {np : Nat → Int32} (hRel : kRel av nc rv nr tv nt pv tr tm tp wv) {H : Heap} {locs : List Loc} (hPX : va_P (dC, dI) vwCl (xW h0 qa qr qt cI cJ av (20 + nc) rv nr tv nt pk pn) H) (hPM : va_P (dC, dI) vwCl (mW g0 gp gr gm gl gw gn cI pv nc tr tm tp nt wv nr re nm np pk pn) H) (hDX : va_D (fun q : Nat => s.heap.size ≤ q) (xW h0 qa qr qt cI cJ av (20 + nc) rv nr tv nt pk pn)) (hDM : va_D (fun q : Nat => s.heap.size ≤ q) (mW g0 gp gr gm gl gw gn cI pv nc tr tm tp nt wv nr re nm np pk pn)) (hS : va_S (fun q : Nat => s.heap.size ≤ q) s.heap H locs) {ls : Array Slot} (hl : lv_has ls 4 [(0, .ref b), (1, .ref h0), (2, .ref g0), (3, .int (nI i))]) : W p l e room_1 s m #[Value.ref b] below meth c H locs 11 4037 (lw_Z below #[Value.ref b] s) (F0 m 454 ls []) := by
  obtain ⟨hx, hb, hr, hml, hown, hts0, hX, hbl, hlocks, hgv⟩ := C0
  have hts := fun w h => hts0 w (wsL_law_in w h)
  have hA : ∀ q : Nat, s.heap.size ≤ q → (fun q : Nat => s.heap.size ≤ q) q := fun _ h => h
  have hbA : ¬ (fun q : Nat => s.heap.size ≤ q) b := Nat.not_le.mpr hbl
  have hKm : va_K (dC, dI) vwCl [(cI, .int)] s := hK.sub [0] rfl
  obtain ⟨bl, pr, tR, tM, tP, hI⟩ := hRel
  obtain ⟨hnc, hAV, hBL, hPV, hnr, hrw, hnt, hTY⟩ := id hI
  have hnk : 20 ≤ 20 + nc ∧ 20 + nc ≤ 32 := ⟨by omega, by omega⟩
  have hnw := hnr
  have hmt := hnt
  have hTM : kTM tm tM nt := kTY_TM hTY
  have hTP : kTP tr tp tM nt := kTY_TP hnc hTY
  refine lv_aload_n hx hb dL_law_454 rfl (lv_at hl 1 rfl) ?_
  refine lv_aload_n hx hb dL_law_455 rfl (lv_at hl 0 rfl) ?_
  refine lv_iload_n hx hb dL_law_456 rfl (lv_at hl 3 rfl) ?_
  refine lv_iconst (v := 1) hx hb dL_law_457 (by decide) ?_
  refine lv_iadd hx hb dL_law_458 ?_
  refine kv_topi (y := nI (i + 1)) (nI_add i 1) ?_
  refine va_sld hx hb hX hbl hbA hS (vp_in_nI (by omega) (by omega)) dL_law_459 ?_
  refine kv_topi (y := xs (i + 1)) (by rw [nI_clamp (by omega)]) ?_
  refine lv_aload_n hx hb dL_law_460 rfl (lv_at hl 0 rfl) ?_
  refine lv_iload_n hx hb dL_law_461 rfl (lv_at hl 3 rfl) ?_
  refine lv_iconst (v := 2) hx hb dL_law_462 (by decide) ?_
  refine lv_iadd hx hb dL_law_463 ?_
  refine kv_topi (y := nI (i + 2)) (nI_add i 2) ?_
  refine va_sld hx hb hX hbl hbA hS (vp_in_nI (by omega) (by omega)) dL_law_464 ?_
  refine kv_topi (y := xs (i + 2)) (by rw [nI_clamp (by omega)]) ?_
  refine kc_R [.int (xs (i + 1)), .int (xs (i + 2))] [] ⟨hx, hb, hml, hown, hts⟩ (cX_typeAbout l dC dI h0 qa qr qt cI cJ av (20 + nc) rv nr tv nt pk pn (xs (i + 1)) (xs (i + 2)) hnt) (cwV 2 hts gL_law_X0_typeAbout rfl rfl rfl (by decide +kernel) ⟨(Nat.le_of_ble_eq_true rfl), (Nat.le_of_ble_eq_true rfl)⟩) hPX hK (ci := 0) (q0 := 0) rfl rfl rfl rfl hl.1 rfl (Nat.le_of_ble_eq_true rfl) dL_law_465 ⟨(Nat.le_of_ble_eq_true rfl), (Nat.le_of_ble_eq_true rfl)⟩ ?_
  refine lv_aload_n hx hb dL_law_468 rfl (lv_at hl 2 rfl) ?_
  refine lv_aload_n hx hb dL_law_469 rfl (lv_at hl 0 rfl) ?_
  refine lv_iload_n hx hb dL_law_470 rfl (lv_at hl 3 rfl) ?_
  refine lv_iconst (v := 1) hx hb dL_law_471 (by decide) ?_
  refine lv_iadd hx hb dL_law_472 ?_
  refine kv_topi (y := nI (i + 1)) (nI_add i 1) ?_
  refine va_sld hx hb hX hbl hbA hS (vp_in_nI (by omega) (by omega)) dL_law_473 ?_
  refine kv_topi (y := xs (i + 1)) (by rw [nI_clamp (by omega)]) ?_
  refine lv_aload_n hx hb dL_law_474 rfl (lv_at hl 0 rfl) ?_
  refine lv_iload_n hx hb dL_law_475 rfl (lv_at hl 3 rfl) ?_
  refine lv_iconst (v := 2) hx hb dL_law_476 (by decide) ?_
  refine lv_iadd hx hb dL_law_477 ?_
  refine kv_topi (y := nI (i + 2)) (nI_add i 2) ?_
  refine va_sld hx hb hX hbl hbA hS (vp_in_nI (by omega) (by omega)) dL_law_478 ?_
  refine kv_topi (y := xs (i + 2)) (by rw [nI_clamp (by omega)]) ?_
  refine kc_R [.int (xs (i + 1)), .int (xs (i + 2))] [.int (fX_typeAbout tv nt (xs (i + 1)) (xs (i + 2)))] ⟨hx, hb, hml, hown, hts0⟩ (cM_typeAbout l dC dI g0 gp gr gm gl gw gn cI pv nc tr tm tp nt wv nr re nm np pk pn tM (xs (i + 1)) (xs (i + 2)) hmt hTM) (cwV 2 hts0 gZL_typeAbout rfl rfl rfl (by decide +kernel) ⟨(Nat.le_of_ble_eq_true rfl), (Nat.le_of_ble_eq_true rfl)⟩) hPM hKm (ci := 1) (q0 := 0) rfl rfl rfl rfl hl.1 rfl (Nat.le_of_ble_eq_true rfl) dL_law_479 ⟨(Nat.le_of_ble_eq_true rfl), (Nat.le_of_ble_eq_true rfl)⟩ ?_
  refine lv_icmp_eq (tgt := 599) hx hb dL_law_482 (by decide) (fun c482 => ?_) (fun c482 => ?_)
  · refine lv_iinc (v := nI (i + 7)) (lv' := [(3, .int (nI (i + 7))), (0, .ref b), (1, .ref h0), (2, .ref g0)]) hx hb dL_law_599 hl (k := 3) rfl (nI_add i 7) (by decide) rfl (fun ls hl => ?_)
    refine lv_goto (tgt := 18) hx hb dL_law_602 (by decide) ?_
    exact ih _ _ _ _ _ _ _ _ _ _ _ _ _ _ _ _ ⟨bl, pr, tR, tM, tP, hI⟩ H locs hPX hPM hDX hDM hS ls (lv_sub hl [1, 2, 3, 0] rfl)
  · exact absurd (eq_typeAbout hI (xs (i + 1)) (xs (i + 2))) c482
set_option maxHeartbeats 8000000 in
set_option maxRecDepth 100000 in
theorem law_mayBe {p : Program} {l : Launch} {e : Env} {s : State} {m : MethodId} {below : List Frame} {meth : Method} {c : Code} {dC : Nat → ClassId} {dI : Nat → Nat → Nat} {b L : Nat} {xs : Nat → Int32} {h0 qa qr qt g0 gp gr gm gl gw gn : Nat} {cI cJ : ClassId} (C0 : lw_At p s m meth c b L xs) (hdM : ∀ q : Nat, q ∈ [g0, gp, gr, gm, gl, gw, gn] → q ∉ [h0, qa, qr, qt]) (hdX : ∀ q : Nat, q ∈ [h0, qa, qr, qt] → q ∉ [g0, gp, gr, gm, gl, gw, gn]) (hK : va_K (dC, dI) vwCl [(cI, .int), (cJ, .long)] s) (hL : L ≤ 3584) {i : Nat} (hi7 : i + 7 ≤ L) (ih : ∀ (av : Nat → Int32) (nc : Nat) (rv : Nat → Int32) (nr : Nat) (tv : Nat → Int64) (nt : Nat) (pk : Int32) (pn : Int64) (pv : Nat → Int32) (tr : Nat → Int32) (tm : Nat → Int32) (tp : Nat → Int32) (wv : Nat → Int32) (re : Int32) (nm : Nat) (np : Nat → Int32), kRel av nc rv nr tv nt pv tr tm tp wv → ∀ (H : Heap) (locs : List Loc), va_P (dC, dI) vwCl (xW h0 qa qr qt cI cJ av (20 + nc) rv nr tv nt pk pn) H → va_P (dC, dI) vwCl (mW g0 gp gr gm gl gw gn cI pv nc tr tm tp nt wv nr re nm np pk pn) H → va_D (fun q : Nat => s.heap.size ≤ q) (xW h0 qa qr qt cI cJ av (20 + nc) rv nr tv nt pk pn) → va_D (fun q : Nat => s.heap.size ≤ q) (mW g0 gp gr gm gl gw gn cI pv nc tr tm tp nt wv nr re nm np pk pn) → va_S (fun q : Nat => s.heap.size ≤ q) s.heap H locs → ∀ (ls : Array Slot), lv_has ls 4 [(0, .ref b), (1, .ref h0), (2, .ref g0), (3, .int (nI (i + 7)))] → W p l e room_1 s m #[Value.ref b] below meth c H locs 11 4037 (lw_Z below #[Value.ref b] s) (F0 m 18 ls [])) {av : Nat → Int32} {nc : Nat} {rv : Nat → Int32} {nr : Nat} {tv : Nat → Int64} {nt : Nat} {pk : Int32} {pn : Int64} {pv : Nat → Int32} {tr : Nat → Int32} {tm : Nat → Int32} {tp : Nat → Int32} {wv : Nat → Int32} {re : Int32} {nm : Nat} {np : Nat → Int32} (hRel : kRel av nc rv nr tv nt pv tr tm tp wv) {H : Heap} {locs : List Loc} (hPX : va_P (dC, dI) vwCl (xW h0 qa qr qt cI cJ av (20 + nc) rv nr tv nt pk pn) H) (hPM : va_P (dC, dI) vwCl (mW g0 gp gr gm gl gw gn cI pv nc tr tm tp nt wv nr re nm np pk pn) H) (hDX : va_D (fun q : Nat => s.heap.size ≤ q) (xW h0 qa qr qt cI cJ av (20 + nc) rv nr tv nt pk pn)) (hDM : va_D (fun q : Nat => s.heap.size ≤ q) (mW g0 gp gr gm gl gw gn cI pv nc tr tm tp nt wv nr re nm np pk pn)) (hS : va_S (fun q : Nat => s.heap.size ≤ q) s.heap H locs) {ls : Array Slot} (hl : lv_has ls 4 [(0, .ref b), (1, .ref h0), (2, .ref g0), (3, .int (nI i))]) : W p l e room_1 s m #[Value.ref b] below meth c H locs 11 4037 (lw_Z below #[Value.ref b] s) (F0 m 487 ls []) := by
  obtain ⟨hx, hb, hr, hml, hown, hts0, hX, hbl, hlocks, hgv⟩ := C0
  have hts := fun w h => hts0 w (wsL_law_in w h)
  have hA : ∀ q : Nat, s.heap.size ≤ q → (fun q : Nat => s.heap.size ≤ q) q := fun _ h => h
  have hbA : ¬ (fun q : Nat => s.heap.size ≤ q) b := Nat.not_le.mpr hbl
  have hKm : va_K (dC, dI) vwCl [(cI, .int)] s := hK.sub [0] rfl
  obtain ⟨bl, pr, tR, tM, tP, hI⟩ := hRel
  obtain ⟨hnc, hAV, hBL, hPV, hnr, hrw, hnt, hTY⟩ := id hI
  have hnk : 20 ≤ 20 + nc ∧ 20 + nc ≤ 32 := ⟨by omega, by omega⟩
  have hnw := hnr
  have hmt := hnt
  have hTM : kTM tm tM nt := kTY_TM hTY
  have hTP : kTP tr tp tM nt := kTY_TP hnc hTY
  refine lv_aload_n hx hb dL_law_487 rfl (lv_at hl 1 rfl) ?_
  refine lv_aload_n hx hb dL_law_488 rfl (lv_at hl 0 rfl) ?_
  refine lv_iload_n hx hb dL_law_489 rfl (lv_at hl 3 rfl) ?_
  refine lv_iconst (v := 1) hx hb dL_law_490 (by decide) ?_
  refine lv_iadd hx hb dL_law_491 ?_
  refine kv_topi (y := nI (i + 1)) (nI_add i 1) ?_
  refine va_sld hx hb hX hbl hbA hS (vp_in_nI (by omega) (by omega)) dL_law_492 ?_
  refine kv_topi (y := xs (i + 1)) (by rw [nI_clamp (by omega)]) ?_
  refine lv_aload_n hx hb dL_law_493 rfl (lv_at hl 0 rfl) ?_
  refine lv_iload_n hx hb dL_law_494 rfl (lv_at hl 3 rfl) ?_
  refine lv_iconst (v := 2) hx hb dL_law_495 (by decide) ?_
  refine lv_iadd hx hb dL_law_496 ?_
  refine kv_topi (y := nI (i + 2)) (nI_add i 2) ?_
  refine va_sld hx hb hX hbl hbA hS (vp_in_nI (by omega) (by omega)) dL_law_497 ?_
  refine kv_topi (y := xs (i + 2)) (by rw [nI_clamp (by omega)]) ?_
  refine lv_aload_n hx hb dL_law_498 rfl (lv_at hl 0 rfl) ?_
  refine lv_iload_n hx hb dL_law_499 rfl (lv_at hl 3 rfl) ?_
  refine lv_iconst (v := 3) hx hb dL_law_500 (by decide) ?_
  refine lv_iadd hx hb dL_law_501 ?_
  refine kv_topi (y := nI (i + 3)) (nI_add i 3) ?_
  refine va_sld hx hb hX hbl hbA hS (vp_in_nI (by omega) (by omega)) dL_law_502 ?_
  refine kv_topi (y := xs (i + 3)) (by rw [nI_clamp (by omega)]) ?_
  refine lv_if_eq (tgt := 510) hx hb dL_law_503 (by decide) (fun c503 => ?_) (fun c503 => ?_)
  · refine lv_iconst (v := 0) hx hb dL_law_510 (by decide) ?_
    refine kc_R [.int (xs (i + 1)), .int (xs (i + 2)), .int 0] [] ⟨hx, hb, hml, hown, hts⟩ (cX_mayBe l dC dI h0 qa qr qt cI cJ av (20 + nc) rv nr tv nt pk pn bl (xs (i + 1)) (xs (i + 2)) false hAV hnk hnt) (cwV 3 hts gL_law_X0_mayBe rfl rfl rfl (by decide +kernel) ⟨(Nat.le_of_ble_eq_true rfl), (Nat.le_of_ble_eq_true rfl)⟩) hPX hK (ci := 0) (q0 := 0) rfl rfl rfl rfl hl.1 rfl (Nat.le_of_ble_eq_true rfl) dL_law_511 ⟨(Nat.le_of_ble_eq_true rfl), (Nat.le_of_ble_eq_true rfl)⟩ ?_
    refine lv_aload_n hx hb dL_law_514 rfl (lv_at hl 2 rfl) ?_
    refine lv_aload_n hx hb dL_law_515 rfl (lv_at hl 0 rfl) ?_
    refine lv_iload_n hx hb dL_law_516 rfl (lv_at hl 3 rfl) ?_
    refine lv_iconst (v := 1) hx hb dL_law_517 (by decide) ?_
    refine lv_iadd hx hb dL_law_518 ?_
    refine kv_topi (y := nI (i + 1)) (nI_add i 1) ?_
    refine va_sld hx hb hX hbl hbA hS (vp_in_nI (by omega) (by omega)) dL_law_519 ?_
    refine kv_topi (y := xs (i + 1)) (by rw [nI_clamp (by omega)]) ?_
    refine lv_aload_n hx hb dL_law_520 rfl (lv_at hl 0 rfl) ?_
    refine lv_iload_n hx hb dL_law_521 rfl (lv_at hl 3 rfl) ?_
    refine lv_iconst (v := 2) hx hb dL_law_522 (by decide) ?_
    refine lv_iadd hx hb dL_law_523 ?_
    refine kv_topi (y := nI (i + 2)) (nI_add i 2) ?_
    refine va_sld hx hb hX hbl hbA hS (vp_in_nI (by omega) (by omega)) dL_law_524 ?_
    refine kv_topi (y := xs (i + 2)) (by rw [nI_clamp (by omega)]) ?_
    refine lv_aload_n hx hb dL_law_525 rfl (lv_at hl 0 rfl) ?_
    refine lv_iload_n hx hb dL_law_526 rfl (lv_at hl 3 rfl) ?_
    refine lv_iconst (v := 3) hx hb dL_law_527 (by decide) ?_
    refine lv_iadd hx hb dL_law_528 ?_
    refine kv_topi (y := nI (i + 3)) (nI_add i 3) ?_
    refine va_sld hx hb hX hbl hbA hS (vp_in_nI (by omega) (by omega)) dL_law_529 ?_
    refine kv_topi (y := xs (i + 3)) (by rw [nI_clamp (by omega)]) ?_
    refine lv_if_eq (tgt := 537) hx hb dL_law_530 (by decide) (fun c530 => ?_) (fun c530 => ?_)
    · refine lv_iconst (v := 0) hx hb dL_law_537 (by decide) ?_
      refine kc_R [.int (xs (i + 1)), .int (xs (i + 2)), .int 0] [.int (bI (fX_mayBe (20 + nc) tv nt bl (xs (i + 1)) (xs (i + 2)) false))] ⟨hx, hb, hml, hown, hts0⟩ (cM_mayBe l dC dI g0 gp gr gm gl gw gn cI pv nc tr tm tp nt wv nr re nm np pk pn bl pr tM (xs (i + 1)) (xs (i + 2)) false hPV hBL hnc hmt hTM hTP) (cwV 3 hts0 gZL_mayBe rfl rfl rfl (by decide +kernel) ⟨(Nat.le_of_ble_eq_true rfl), (Nat.le_of_ble_eq_true rfl)⟩) hPM hKm (ci := 1) (q0 := 0) rfl rfl rfl rfl hl.1 rfl (Nat.le_of_ble_eq_true rfl) dL_law_538 ⟨(Nat.le_of_ble_eq_true rfl), (Nat.le_of_ble_eq_true rfl)⟩ ?_
      refine lv_icmp_eq (tgt := 599) hx hb dL_law_541 (by decide) (fun c541 => ?_) (fun c541 => ?_)
      · refine lv_iinc (v := nI (i + 7)) (lv' := [(3, .int (nI (i + 7))), (0, .ref b), (1, .ref h0), (2, .ref g0)]) hx hb dL_law_599 hl (k := 3) rfl (nI_add i 7) (by decide) rfl (fun ls hl => ?_)
        refine lv_goto (tgt := 18) hx hb dL_law_602 (by decide) ?_
        exact ih _ _ _ _ _ _ _ _ _ _ _ _ _ _ _ _ ⟨bl, pr, tR, tM, tP, hI⟩ H locs hPX hPM hDX hDM hS ls (lv_sub hl [1, 2, 3, 0] rfl)
      · exact absurd (congrArg bI (eq_mayBe hI (xs (i + 1)) (xs (i + 2)) false)) c541
    · exact absurd c503 c530
  · refine lv_iconst (v := 1) hx hb dL_law_506 (by decide) ?_
    refine lv_goto (tgt := 511) hx hb dL_law_507 (by decide) ?_
    refine kc_R [.int (xs (i + 1)), .int (xs (i + 2)), .int 1] [] ⟨hx, hb, hml, hown, hts⟩ (cX_mayBe l dC dI h0 qa qr qt cI cJ av (20 + nc) rv nr tv nt pk pn bl (xs (i + 1)) (xs (i + 2)) true hAV hnk hnt) (cwV 3 hts gL_law_X0_mayBe rfl rfl rfl (by decide +kernel) ⟨(Nat.le_of_ble_eq_true rfl), (Nat.le_of_ble_eq_true rfl)⟩) hPX hK (ci := 0) (q0 := 0) rfl rfl rfl rfl hl.1 rfl (Nat.le_of_ble_eq_true rfl) dL_law_511 ⟨(Nat.le_of_ble_eq_true rfl), (Nat.le_of_ble_eq_true rfl)⟩ ?_
    refine lv_aload_n hx hb dL_law_514 rfl (lv_at hl 2 rfl) ?_
    refine lv_aload_n hx hb dL_law_515 rfl (lv_at hl 0 rfl) ?_
    refine lv_iload_n hx hb dL_law_516 rfl (lv_at hl 3 rfl) ?_
    refine lv_iconst (v := 1) hx hb dL_law_517 (by decide) ?_
    refine lv_iadd hx hb dL_law_518 ?_
    refine kv_topi (y := nI (i + 1)) (nI_add i 1) ?_
    refine va_sld hx hb hX hbl hbA hS (vp_in_nI (by omega) (by omega)) dL_law_519 ?_
    refine kv_topi (y := xs (i + 1)) (by rw [nI_clamp (by omega)]) ?_
    refine lv_aload_n hx hb dL_law_520 rfl (lv_at hl 0 rfl) ?_
    refine lv_iload_n hx hb dL_law_521 rfl (lv_at hl 3 rfl) ?_
    refine lv_iconst (v := 2) hx hb dL_law_522 (by decide) ?_
    refine lv_iadd hx hb dL_law_523 ?_
    refine kv_topi (y := nI (i + 2)) (nI_add i 2) ?_
    refine va_sld hx hb hX hbl hbA hS (vp_in_nI (by omega) (by omega)) dL_law_524 ?_
    refine kv_topi (y := xs (i + 2)) (by rw [nI_clamp (by omega)]) ?_
    refine lv_aload_n hx hb dL_law_525 rfl (lv_at hl 0 rfl) ?_
    refine lv_iload_n hx hb dL_law_526 rfl (lv_at hl 3 rfl) ?_
    refine lv_iconst (v := 3) hx hb dL_law_527 (by decide) ?_
    refine lv_iadd hx hb dL_law_528 ?_
    refine kv_topi (y := nI (i + 3)) (nI_add i 3) ?_
    refine va_sld hx hb hX hbl hbA hS (vp_in_nI (by omega) (by omega)) dL_law_529 ?_
    refine kv_topi (y := xs (i + 3)) (by rw [nI_clamp (by omega)]) ?_
    refine lv_if_eq (tgt := 537) hx hb dL_law_530 (by decide) (fun c530 => ?_) (fun c530 => ?_)
    · exact absurd c530 c503
    · refine lv_iconst (v := 1) hx hb dL_law_533 (by decide) ?_
      refine lv_goto (tgt := 538) hx hb dL_law_534 (by decide) ?_
      refine kc_R [.int (xs (i + 1)), .int (xs (i + 2)), .int 1] [.int (bI (fX_mayBe (20 + nc) tv nt bl (xs (i + 1)) (xs (i + 2)) true))] ⟨hx, hb, hml, hown, hts0⟩ (cM_mayBe l dC dI g0 gp gr gm gl gw gn cI pv nc tr tm tp nt wv nr re nm np pk pn bl pr tM (xs (i + 1)) (xs (i + 2)) true hPV hBL hnc hmt hTM hTP) (cwV 3 hts0 gZL_mayBe rfl rfl rfl (by decide +kernel) ⟨(Nat.le_of_ble_eq_true rfl), (Nat.le_of_ble_eq_true rfl)⟩) hPM hKm (ci := 1) (q0 := 0) rfl rfl rfl rfl hl.1 rfl (Nat.le_of_ble_eq_true rfl) dL_law_538 ⟨(Nat.le_of_ble_eq_true rfl), (Nat.le_of_ble_eq_true rfl)⟩ ?_
      refine lv_icmp_eq (tgt := 599) hx hb dL_law_541 (by decide) (fun c541 => ?_) (fun c541 => ?_)
      · refine lv_iinc (v := nI (i + 7)) (lv' := [(3, .int (nI (i + 7))), (0, .ref b), (1, .ref h0), (2, .ref g0)]) hx hb dL_law_599 hl (k := 3) rfl (nI_add i 7) (by decide) rfl (fun ls hl => ?_)
        refine lv_goto (tgt := 18) hx hb dL_law_602 (by decide) ?_
        exact ih _ _ _ _ _ _ _ _ _ _ _ _ _ _ _ _ ⟨bl, pr, tR, tM, tP, hI⟩ H locs hPX hPM hDX hDM hS ls (lv_sub hl [1, 2, 3, 0] rfl)
      · exact absurd (congrArg bI (eq_mayBe hI (xs (i + 1)) (xs (i + 2)) true)) c541
set_option maxHeartbeats 8000000 in
set_option maxRecDepth 100000 in
theorem law_changed {p : Program} {l : Launch} {e : Env} {s : State} {m : MethodId} {below : List Frame} {meth : Method} {c : Code} {dC : Nat → ClassId} {dI : Nat → Nat → Nat} {b L : Nat} {xs : Nat → Int32} {h0 qa qr qt g0 gp gr gm gl gw gn : Nat} {cI cJ : ClassId} (C0 : lw_At p s m meth c b L xs) (hdM : ∀ q : Nat, q ∈ [g0, gp, gr, gm, gl, gw, gn] → q ∉ [h0, qa, qr, qt]) (hdX : ∀ q : Nat, q ∈ [h0, qa, qr, qt] → q ∉ [g0, gp, gr, gm, gl, gw, gn]) (hK : va_K (dC, dI) vwCl [(cI, .int), (cJ, .long)] s) (hL : L ≤ 3584) {i : Nat} (hi7 : i + 7 ≤ L) (ih : ∀ (av : Nat → Int32) (nc : Nat) (rv : Nat → Int32) (nr : Nat) (tv : Nat → Int64) (nt : Nat) (pk : Int32) (pn : Int64) (pv : Nat → Int32) (tr : Nat → Int32) (tm : Nat → Int32) (tp : Nat → Int32) (wv : Nat → Int32) (re : Int32) (nm : Nat) (np : Nat → Int32), kRel av nc rv nr tv nt pv tr tm tp wv → ∀ (H : Heap) (locs : List Loc), va_P (dC, dI) vwCl (xW h0 qa qr qt cI cJ av (20 + nc) rv nr tv nt pk pn) H → va_P (dC, dI) vwCl (mW g0 gp gr gm gl gw gn cI pv nc tr tm tp nt wv nr re nm np pk pn) H → va_D (fun q : Nat => s.heap.size ≤ q) (xW h0 qa qr qt cI cJ av (20 + nc) rv nr tv nt pk pn) → va_D (fun q : Nat => s.heap.size ≤ q) (mW g0 gp gr gm gl gw gn cI pv nc tr tm tp nt wv nr re nm np pk pn) → va_S (fun q : Nat => s.heap.size ≤ q) s.heap H locs → ∀ (ls : Array Slot), lv_has ls 4 [(0, .ref b), (1, .ref h0), (2, .ref g0), (3, .int (nI (i + 7)))] → W p l e room_1 s m #[Value.ref b] below meth c H locs 11 4037 (lw_Z below #[Value.ref b] s) (F0 m 18 ls [])) {av : Nat → Int32} {nc : Nat} {rv : Nat → Int32} {nr : Nat} {tv : Nat → Int64} {nt : Nat} {pk : Int32} {pn : Int64} {pv : Nat → Int32} {tr : Nat → Int32} {tm : Nat → Int32} {tp : Nat → Int32} {wv : Nat → Int32} {re : Int32} {nm : Nat} {np : Nat → Int32} (hRel : kRel av nc rv nr tv nt pv tr tm tp wv) {H : Heap} {locs : List Loc} (hPX : va_P (dC, dI) vwCl (xW h0 qa qr qt cI cJ av (20 + nc) rv nr tv nt pk pn) H) (hPM : va_P (dC, dI) vwCl (mW g0 gp gr gm gl gw gn cI pv nc tr tm tp nt wv nr re nm np pk pn) H) (hDX : va_D (fun q : Nat => s.heap.size ≤ q) (xW h0 qa qr qt cI cJ av (20 + nc) rv nr tv nt pk pn)) (hDM : va_D (fun q : Nat => s.heap.size ≤ q) (mW g0 gp gr gm gl gw gn cI pv nc tr tm tp nt wv nr re nm np pk pn)) (hS : va_S (fun q : Nat => s.heap.size ≤ q) s.heap H locs) {ls : Array Slot} (hl : lv_has ls 4 [(0, .ref b), (1, .ref h0), (2, .ref g0), (3, .int (nI i))]) : W p l e room_1 s m #[Value.ref b] below meth c H locs 11 4037 (lw_Z below #[Value.ref b] s) (F0 m 546 ls []) := by
  obtain ⟨hx, hb, hr, hml, hown, hts0, hX, hbl, hlocks, hgv⟩ := C0
  have hts := fun w h => hts0 w (wsL_law_in w h)
  have hA : ∀ q : Nat, s.heap.size ≤ q → (fun q : Nat => s.heap.size ≤ q) q := fun _ h => h
  have hbA : ¬ (fun q : Nat => s.heap.size ≤ q) b := Nat.not_le.mpr hbl
  have hKm : va_K (dC, dI) vwCl [(cI, .int)] s := hK.sub [0] rfl
  obtain ⟨bl, pr, tR, tM, tP, hI⟩ := hRel
  obtain ⟨hnc, hAV, hBL, hPV, hnr, hrw, hnt, hTY⟩ := id hI
  have hnk : 20 ≤ 20 + nc ∧ 20 + nc ≤ 32 := ⟨by omega, by omega⟩
  have hnw := hnr
  have hmt := hnt
  have hTM : kTM tm tM nt := kTY_TM hTY
  have hTP : kTP tr tp tM nt := kTY_TP hnc hTY
  refine lv_aload_n hx hb dL_law_546 rfl (lv_at hl 1 rfl) ?_
  refine lv_aload_n hx hb dL_law_547 rfl (lv_at hl 0 rfl) ?_
  refine lv_iload_n hx hb dL_law_548 rfl (lv_at hl 3 rfl) ?_
  refine lv_iconst (v := 1) hx hb dL_law_549 (by decide) ?_
  refine lv_iadd hx hb dL_law_550 ?_
  refine kv_topi (y := nI (i + 1)) (nI_add i 1) ?_
  refine va_sld hx hb hX hbl hbA hS (vp_in_nI (by omega) (by omega)) dL_law_551 ?_
  refine kv_topi (y := xs (i + 1)) (by rw [nI_clamp (by omega)]) ?_
  refine lv_aload_n hx hb dL_law_552 rfl (lv_at hl 0 rfl) ?_
  refine lv_iload_n hx hb dL_law_553 rfl (lv_at hl 3 rfl) ?_
  refine lv_iconst (v := 2) hx hb dL_law_554 (by decide) ?_
  refine lv_iadd hx hb dL_law_555 ?_
  refine kv_topi (y := nI (i + 2)) (nI_add i 2) ?_
  refine va_sld hx hb hX hbl hbA hS (vp_in_nI (by omega) (by omega)) dL_law_556 ?_
  refine kv_topi (y := xs (i + 2)) (by rw [nI_clamp (by omega)]) ?_
  refine lv_aload_n hx hb dL_law_557 rfl (lv_at hl 0 rfl) ?_
  refine lv_iload_n hx hb dL_law_558 rfl (lv_at hl 3 rfl) ?_
  refine lv_iconst (v := 3) hx hb dL_law_559 (by decide) ?_
  refine lv_iadd hx hb dL_law_560 ?_
  refine kv_topi (y := nI (i + 3)) (nI_add i 3) ?_
  refine va_sld hx hb hX hbl hbA hS (vp_in_nI (by omega) (by omega)) dL_law_561 ?_
  refine kv_topi (y := xs (i + 3)) (by rw [nI_clamp (by omega)]) ?_
  refine lv_aload_n hx hb dL_law_562 rfl (lv_at hl 0 rfl) ?_
  refine lv_iload_n hx hb dL_law_563 rfl (lv_at hl 3 rfl) ?_
  refine lv_iconst (v := 4) hx hb dL_law_564 (by decide) ?_
  refine lv_iadd hx hb dL_law_565 ?_
  refine kv_topi (y := nI (i + 4)) (nI_add i 4) ?_
  refine va_sld hx hb hX hbl hbA hS (vp_in_nI (by omega) (by omega)) dL_law_566 ?_
  refine kv_topi (y := xs (i + 4)) (by rw [nI_clamp (by omega)]) ?_
  refine kc_W [.int (xs (i + 1)), .int (xs (i + 2)), .int (xs (i + 3)), .int (xs (i + 4))] [] ⟨hx, hb, hml, hown, hts⟩ (cX_changed l dC dI h0 qa qr qt cI cJ av (20 + nc) rv nr tv nt pk pn (xs (i + 1)) (xs (i + 2)) (xs (i + 3)) (xs (i + 4)) hnt) (cwV 4 hts gL_law_X0_changed rfl rfl rfl (by decide +kernel) ⟨(Nat.le_of_ble_eq_true rfl), (Nat.le_of_ble_eq_true rfl)⟩) hPX hK hDX hS rfl (ci := 0) (q0 := 0) rfl rfl rfl rfl hl.1 rfl (Nat.le_of_ble_eq_true rfl) dL_law_567 ⟨(Nat.le_of_ble_eq_true rfl), (Nat.le_of_ble_eq_true rfl)⟩ (fun H locs hP1 hS hk1 => ?_)
  have hPM : va_P (dC, dI) vwCl (mW g0 gp gr gm gl gw gn cI pv nc tr tm tp nt wv nr re nm np pk pn) H := kP_kept hPM rfl hdM hk1
  have hPX : va_P (dC, dI) vwCl (xW h0 qa qr qt cI cJ av (20 + nc) rv nr ((fX_changed tv nt (xs (i + 1)) (xs (i + 2)) (xs (i + 3)) (xs (i + 4))).2.1) ((fX_changed tv nt (xs (i + 1)) (xs (i + 2)) (xs (i + 3)) (xs (i + 4))).2.2) pk pn) H := hP1
  have hDX : va_D (fun q : Nat => s.heap.size ≤ q) (xW h0 qa qr qt cI cJ av (20 + nc) rv nr ((fX_changed tv nt (xs (i + 1)) (xs (i + 2)) (xs (i + 3)) (xs (i + 4))).2.1) ((fX_changed tv nt (xs (i + 1)) (xs (i + 2)) (xs (i + 3)) (xs (i + 4))).2.2) pk pn) := kD_same hDX rfl
  refine lv_aload_n hx hb dL_law_570 rfl (lv_at hl 2 rfl) ?_
  refine lv_aload_n hx hb dL_law_571 rfl (lv_at hl 0 rfl) ?_
  refine lv_iload_n hx hb dL_law_572 rfl (lv_at hl 3 rfl) ?_
  refine lv_iconst (v := 1) hx hb dL_law_573 (by decide) ?_
  refine lv_iadd hx hb dL_law_574 ?_
  refine kv_topi (y := nI (i + 1)) (nI_add i 1) ?_
  refine va_sld hx hb hX hbl hbA hS (vp_in_nI (by omega) (by omega)) dL_law_575 ?_
  refine kv_topi (y := xs (i + 1)) (by rw [nI_clamp (by omega)]) ?_
  refine lv_aload_n hx hb dL_law_576 rfl (lv_at hl 0 rfl) ?_
  refine lv_iload_n hx hb dL_law_577 rfl (lv_at hl 3 rfl) ?_
  refine lv_iconst (v := 2) hx hb dL_law_578 (by decide) ?_
  refine lv_iadd hx hb dL_law_579 ?_
  refine kv_topi (y := nI (i + 2)) (nI_add i 2) ?_
  refine va_sld hx hb hX hbl hbA hS (vp_in_nI (by omega) (by omega)) dL_law_580 ?_
  refine kv_topi (y := xs (i + 2)) (by rw [nI_clamp (by omega)]) ?_
  refine lv_aload_n hx hb dL_law_581 rfl (lv_at hl 0 rfl) ?_
  refine lv_iload_n hx hb dL_law_582 rfl (lv_at hl 3 rfl) ?_
  refine lv_iconst (v := 3) hx hb dL_law_583 (by decide) ?_
  refine lv_iadd hx hb dL_law_584 ?_
  refine kv_topi (y := nI (i + 3)) (nI_add i 3) ?_
  refine va_sld hx hb hX hbl hbA hS (vp_in_nI (by omega) (by omega)) dL_law_585 ?_
  refine kv_topi (y := xs (i + 3)) (by rw [nI_clamp (by omega)]) ?_
  refine lv_aload_n hx hb dL_law_586 rfl (lv_at hl 0 rfl) ?_
  refine lv_iload_n hx hb dL_law_587 rfl (lv_at hl 3 rfl) ?_
  refine lv_iconst (v := 4) hx hb dL_law_588 (by decide) ?_
  refine lv_iadd hx hb dL_law_589 ?_
  refine kv_topi (y := nI (i + 4)) (nI_add i 4) ?_
  refine va_sld hx hb hX hbl hbA hS (vp_in_nI (by omega) (by omega)) dL_law_590 ?_
  refine kv_topi (y := xs (i + 4)) (by rw [nI_clamp (by omega)]) ?_
  refine kc_W [.int (xs (i + 1)), .int (xs (i + 2)), .int (xs (i + 3)), .int (xs (i + 4))] [.int ((fX_changed tv nt (xs (i + 1)) (xs (i + 2)) (xs (i + 3)) (xs (i + 4))).1)] ⟨hx, hb, hml, hown, hts0⟩ (cM_changed l dC dI g0 gp gr gm gl gw gn cI pv nc tr tm tp nt wv nr re nm np pk pn tM (xs (i + 1)) (xs (i + 2)) (xs (i + 3)) (xs (i + 4)) hmt hTM) (cwV 4 hts0 gZL_changed rfl rfl rfl (by decide +kernel) ⟨(Nat.le_of_ble_eq_true rfl), (Nat.le_of_ble_eq_true rfl)⟩) hPM hKm hDM hS rfl (ci := 1) (q0 := 0) rfl rfl rfl rfl hl.1 rfl (Nat.le_of_ble_eq_true rfl) dL_law_591 ⟨(Nat.le_of_ble_eq_true rfl), (Nat.le_of_ble_eq_true rfl)⟩ (fun H locs hP1 hS hk1 => ?_)
  have hPX : va_P (dC, dI) vwCl (xW h0 qa qr qt cI cJ av (20 + nc) rv nr ((fX_changed tv nt (xs (i + 1)) (xs (i + 2)) (xs (i + 3)) (xs (i + 4))).2.1) ((fX_changed tv nt (xs (i + 1)) (xs (i + 2)) (xs (i + 3)) (xs (i + 4))).2.2) pk pn) H := kP_kept hPX rfl hdX hk1
  have hPM : va_P (dC, dI) vwCl (mW g0 gp gr gm gl gw gn cI pv nc (if fM_chOK tm nt (xs (i + 1)) (xs (i + 2)) (xs (i + 3)) (xs (i + 4)) = true then (if ((xs (i + 2)).toNatClampNeg + (tm (xs (i + 4)).toNatClampNeg).toNatClampNeg + ((tm (xs (i + 1)).toNatClampNeg).toNatClampNeg - ((xs (i + 2)).toNatClampNeg + (xs (i + 3)).toNatClampNeg))) ≤ 10 then nbV (fnd (fQ tr tm tp (chN3 tp np ((xs (i + 1)).toNatClampNeg) ((xs (i + 2)).toNatClampNeg) ((xs (i + 3)).toNatClampNeg) ((xs (i + 4)).toNatClampNeg) (tm (xs (i + 4)).toNatClampNeg).toNatClampNeg ((tm (xs (i + 1)).toNatClampNeg).toNatClampNeg - ((xs (i + 2)).toNatClampNeg + (xs (i + 3)).toNatClampNeg))) (tr (xs (i + 1)).toNatClampNeg) ((xs (i + 2)).toNatClampNeg + (tm (xs (i + 4)).toNatClampNeg).toNatClampNeg + ((tm (xs (i + 1)).toNatClampNeg).toNatClampNeg - ((xs (i + 2)).toNatClampNeg + (xs (i + 3)).toNatClampNeg)))) nt 0) nt tr (upd tr nt (tr (xs (i + 1)).toNatClampNeg)) else tr) else tr) (if fM_chOK tm nt (xs (i + 1)) (xs (i + 2)) (xs (i + 3)) (xs (i + 4)) = true then (if ((xs (i + 2)).toNatClampNeg + (tm (xs (i + 4)).toNatClampNeg).toNatClampNeg + ((tm (xs (i + 1)).toNatClampNeg).toNatClampNeg - ((xs (i + 2)).toNatClampNeg + (xs (i + 3)).toNatClampNeg))) ≤ 10 then nbV (fnd (fQ tr tm tp (chN3 tp np ((xs (i + 1)).toNatClampNeg) ((xs (i + 2)).toNatClampNeg) ((xs (i + 3)).toNatClampNeg) ((xs (i + 4)).toNatClampNeg) (tm (xs (i + 4)).toNatClampNeg).toNatClampNeg ((tm (xs (i + 1)).toNatClampNeg).toNatClampNeg - ((xs (i + 2)).toNatClampNeg + (xs (i + 3)).toNatClampNeg))) (tr (xs (i + 1)).toNatClampNeg) ((xs (i + 2)).toNatClampNeg + (tm (xs (i + 4)).toNatClampNeg).toNatClampNeg + ((tm (xs (i + 1)).toNatClampNeg).toNatClampNeg - ((xs (i + 2)).toNatClampNeg + (xs (i + 3)).toNatClampNeg)))) nt 0) nt tm (upd tm nt (nI ((xs (i + 2)).toNatClampNeg + (tm (xs (i + 4)).toNatClampNeg).toNatClampNeg + ((tm (xs (i + 1)).toNatClampNeg).toNatClampNeg - ((xs (i + 2)).toNatClampNeg + (xs (i + 3)).toNatClampNeg))))) else tm) else tm) (if fM_chOK tm nt (xs (i + 1)) (xs (i + 2)) (xs (i + 3)) (xs (i + 4)) = true then (if ((xs (i + 2)).toNatClampNeg + (tm (xs (i + 4)).toNatClampNeg).toNatClampNeg + ((tm (xs (i + 1)).toNatClampNeg).toNatClampNeg - ((xs (i + 2)).toNatClampNeg + (xs (i + 3)).toNatClampNeg))) ≤ 10 then nbV (fnd (fQ tr tm tp (chN3 tp np ((xs (i + 1)).toNatClampNeg) ((xs (i + 2)).toNatClampNeg) ((xs (i + 3)).toNatClampNeg) ((xs (i + 4)).toNatClampNeg) (tm (xs (i + 4)).toNatClampNeg).toNatClampNeg ((tm (xs (i + 1)).toNatClampNeg).toNatClampNeg - ((xs (i + 2)).toNatClampNeg + (xs (i + 3)).toNatClampNeg))) (tr (xs (i + 1)).toNatClampNeg) ((xs (i + 2)).toNatClampNeg + (tm (xs (i + 4)).toNatClampNeg).toNatClampNeg + ((tm (xs (i + 1)).toNatClampNeg).toNatClampNeg - ((xs (i + 2)).toNatClampNeg + (xs (i + 3)).toNatClampNeg)))) nt 0) nt tp (tpC tp (chN3 tp np ((xs (i + 1)).toNatClampNeg) ((xs (i + 2)).toNatClampNeg) ((xs (i + 3)).toNatClampNeg) ((xs (i + 4)).toNatClampNeg) (tm (xs (i + 4)).toNatClampNeg).toNatClampNeg ((tm (xs (i + 1)).toNatClampNeg).toNatClampNeg - ((xs (i + 2)).toNatClampNeg + (xs (i + 3)).toNatClampNeg))) nt ((xs (i + 2)).toNatClampNeg + (tm (xs (i + 4)).toNatClampNeg).toNatClampNeg + ((tm (xs (i + 1)).toNatClampNeg).toNatClampNeg - ((xs (i + 2)).toNatClampNeg + (xs (i + 3)).toNatClampNeg)))) else tp) else tp) (if fM_chOK tm nt (xs (i + 1)) (xs (i + 2)) (xs (i + 3)) (xs (i + 4)) = true then (if ((xs (i + 2)).toNatClampNeg + (tm (xs (i + 4)).toNatClampNeg).toNatClampNeg + ((tm (xs (i + 1)).toNatClampNeg).toNatClampNeg - ((xs (i + 2)).toNatClampNeg + (xs (i + 3)).toNatClampNeg))) ≤ 10 then nbN (fnd (fQ tr tm tp (chN3 tp np ((xs (i + 1)).toNatClampNeg) ((xs (i + 2)).toNatClampNeg) ((xs (i + 3)).toNatClampNeg) ((xs (i + 4)).toNatClampNeg) (tm (xs (i + 4)).toNatClampNeg).toNatClampNeg ((tm (xs (i + 1)).toNatClampNeg).toNatClampNeg - ((xs (i + 2)).toNatClampNeg + (xs (i + 3)).toNatClampNeg))) (tr (xs (i + 1)).toNatClampNeg) ((xs (i + 2)).toNatClampNeg + (tm (xs (i + 4)).toNatClampNeg).toNatClampNeg + ((tm (xs (i + 1)).toNatClampNeg).toNatClampNeg - ((xs (i + 2)).toNatClampNeg + (xs (i + 3)).toNatClampNeg)))) nt 0) nt else nt) else nt) wv nr (if fM_chOK tm nt (xs (i + 1)) (xs (i + 2)) (xs (i + 3)) (xs (i + 4)) = true then (tr (xs (i + 1)).toNatClampNeg) else re) (if fM_chOK tm nt (xs (i + 1)) (xs (i + 2)) (xs (i + 3)) (xs (i + 4)) = true then ((xs (i + 2)).toNatClampNeg + (tm (xs (i + 4)).toNatClampNeg).toNatClampNeg + ((tm (xs (i + 1)).toNatClampNeg).toNatClampNeg - ((xs (i + 2)).toNatClampNeg + (xs (i + 3)).toNatClampNeg))) else nm) (if fM_chOK tm nt (xs (i + 1)) (xs (i + 2)) (xs (i + 3)) (xs (i + 4)) = true then (chN3 tp np ((xs (i + 1)).toNatClampNeg) ((xs (i + 2)).toNatClampNeg) ((xs (i + 3)).toNatClampNeg) ((xs (i + 4)).toNatClampNeg) (tm (xs (i + 4)).toNatClampNeg).toNatClampNeg ((tm (xs (i + 1)).toNatClampNeg).toNatClampNeg - ((xs (i + 2)).toNatClampNeg + (xs (i + 3)).toNatClampNeg))) else np) pk pn) H := hP1
  have hDM : va_D (fun q : Nat => s.heap.size ≤ q) (mW g0 gp gr gm gl gw gn cI pv nc (if fM_chOK tm nt (xs (i + 1)) (xs (i + 2)) (xs (i + 3)) (xs (i + 4)) = true then (if ((xs (i + 2)).toNatClampNeg + (tm (xs (i + 4)).toNatClampNeg).toNatClampNeg + ((tm (xs (i + 1)).toNatClampNeg).toNatClampNeg - ((xs (i + 2)).toNatClampNeg + (xs (i + 3)).toNatClampNeg))) ≤ 10 then nbV (fnd (fQ tr tm tp (chN3 tp np ((xs (i + 1)).toNatClampNeg) ((xs (i + 2)).toNatClampNeg) ((xs (i + 3)).toNatClampNeg) ((xs (i + 4)).toNatClampNeg) (tm (xs (i + 4)).toNatClampNeg).toNatClampNeg ((tm (xs (i + 1)).toNatClampNeg).toNatClampNeg - ((xs (i + 2)).toNatClampNeg + (xs (i + 3)).toNatClampNeg))) (tr (xs (i + 1)).toNatClampNeg) ((xs (i + 2)).toNatClampNeg + (tm (xs (i + 4)).toNatClampNeg).toNatClampNeg + ((tm (xs (i + 1)).toNatClampNeg).toNatClampNeg - ((xs (i + 2)).toNatClampNeg + (xs (i + 3)).toNatClampNeg)))) nt 0) nt tr (upd tr nt (tr (xs (i + 1)).toNatClampNeg)) else tr) else tr) (if fM_chOK tm nt (xs (i + 1)) (xs (i + 2)) (xs (i + 3)) (xs (i + 4)) = true then (if ((xs (i + 2)).toNatClampNeg + (tm (xs (i + 4)).toNatClampNeg).toNatClampNeg + ((tm (xs (i + 1)).toNatClampNeg).toNatClampNeg - ((xs (i + 2)).toNatClampNeg + (xs (i + 3)).toNatClampNeg))) ≤ 10 then nbV (fnd (fQ tr tm tp (chN3 tp np ((xs (i + 1)).toNatClampNeg) ((xs (i + 2)).toNatClampNeg) ((xs (i + 3)).toNatClampNeg) ((xs (i + 4)).toNatClampNeg) (tm (xs (i + 4)).toNatClampNeg).toNatClampNeg ((tm (xs (i + 1)).toNatClampNeg).toNatClampNeg - ((xs (i + 2)).toNatClampNeg + (xs (i + 3)).toNatClampNeg))) (tr (xs (i + 1)).toNatClampNeg) ((xs (i + 2)).toNatClampNeg + (tm (xs (i + 4)).toNatClampNeg).toNatClampNeg + ((tm (xs (i + 1)).toNatClampNeg).toNatClampNeg - ((xs (i + 2)).toNatClampNeg + (xs (i + 3)).toNatClampNeg)))) nt 0) nt tm (upd tm nt (nI ((xs (i + 2)).toNatClampNeg + (tm (xs (i + 4)).toNatClampNeg).toNatClampNeg + ((tm (xs (i + 1)).toNatClampNeg).toNatClampNeg - ((xs (i + 2)).toNatClampNeg + (xs (i + 3)).toNatClampNeg))))) else tm) else tm) (if fM_chOK tm nt (xs (i + 1)) (xs (i + 2)) (xs (i + 3)) (xs (i + 4)) = true then (if ((xs (i + 2)).toNatClampNeg + (tm (xs (i + 4)).toNatClampNeg).toNatClampNeg + ((tm (xs (i + 1)).toNatClampNeg).toNatClampNeg - ((xs (i + 2)).toNatClampNeg + (xs (i + 3)).toNatClampNeg))) ≤ 10 then nbV (fnd (fQ tr tm tp (chN3 tp np ((xs (i + 1)).toNatClampNeg) ((xs (i + 2)).toNatClampNeg) ((xs (i + 3)).toNatClampNeg) ((xs (i + 4)).toNatClampNeg) (tm (xs (i + 4)).toNatClampNeg).toNatClampNeg ((tm (xs (i + 1)).toNatClampNeg).toNatClampNeg - ((xs (i + 2)).toNatClampNeg + (xs (i + 3)).toNatClampNeg))) (tr (xs (i + 1)).toNatClampNeg) ((xs (i + 2)).toNatClampNeg + (tm (xs (i + 4)).toNatClampNeg).toNatClampNeg + ((tm (xs (i + 1)).toNatClampNeg).toNatClampNeg - ((xs (i + 2)).toNatClampNeg + (xs (i + 3)).toNatClampNeg)))) nt 0) nt tp (tpC tp (chN3 tp np ((xs (i + 1)).toNatClampNeg) ((xs (i + 2)).toNatClampNeg) ((xs (i + 3)).toNatClampNeg) ((xs (i + 4)).toNatClampNeg) (tm (xs (i + 4)).toNatClampNeg).toNatClampNeg ((tm (xs (i + 1)).toNatClampNeg).toNatClampNeg - ((xs (i + 2)).toNatClampNeg + (xs (i + 3)).toNatClampNeg))) nt ((xs (i + 2)).toNatClampNeg + (tm (xs (i + 4)).toNatClampNeg).toNatClampNeg + ((tm (xs (i + 1)).toNatClampNeg).toNatClampNeg - ((xs (i + 2)).toNatClampNeg + (xs (i + 3)).toNatClampNeg)))) else tp) else tp) (if fM_chOK tm nt (xs (i + 1)) (xs (i + 2)) (xs (i + 3)) (xs (i + 4)) = true then (if ((xs (i + 2)).toNatClampNeg + (tm (xs (i + 4)).toNatClampNeg).toNatClampNeg + ((tm (xs (i + 1)).toNatClampNeg).toNatClampNeg - ((xs (i + 2)).toNatClampNeg + (xs (i + 3)).toNatClampNeg))) ≤ 10 then nbN (fnd (fQ tr tm tp (chN3 tp np ((xs (i + 1)).toNatClampNeg) ((xs (i + 2)).toNatClampNeg) ((xs (i + 3)).toNatClampNeg) ((xs (i + 4)).toNatClampNeg) (tm (xs (i + 4)).toNatClampNeg).toNatClampNeg ((tm (xs (i + 1)).toNatClampNeg).toNatClampNeg - ((xs (i + 2)).toNatClampNeg + (xs (i + 3)).toNatClampNeg))) (tr (xs (i + 1)).toNatClampNeg) ((xs (i + 2)).toNatClampNeg + (tm (xs (i + 4)).toNatClampNeg).toNatClampNeg + ((tm (xs (i + 1)).toNatClampNeg).toNatClampNeg - ((xs (i + 2)).toNatClampNeg + (xs (i + 3)).toNatClampNeg)))) nt 0) nt else nt) else nt) wv nr (if fM_chOK tm nt (xs (i + 1)) (xs (i + 2)) (xs (i + 3)) (xs (i + 4)) = true then (tr (xs (i + 1)).toNatClampNeg) else re) (if fM_chOK tm nt (xs (i + 1)) (xs (i + 2)) (xs (i + 3)) (xs (i + 4)) = true then ((xs (i + 2)).toNatClampNeg + (tm (xs (i + 4)).toNatClampNeg).toNatClampNeg + ((tm (xs (i + 1)).toNatClampNeg).toNatClampNeg - ((xs (i + 2)).toNatClampNeg + (xs (i + 3)).toNatClampNeg))) else nm) (if fM_chOK tm nt (xs (i + 1)) (xs (i + 2)) (xs (i + 3)) (xs (i + 4)) = true then (chN3 tp np ((xs (i + 1)).toNatClampNeg) ((xs (i + 2)).toNatClampNeg) ((xs (i + 3)).toNatClampNeg) ((xs (i + 4)).toNatClampNeg) (tm (xs (i + 4)).toNatClampNeg).toNatClampNeg ((tm (xs (i + 1)).toNatClampNeg).toNatClampNeg - ((xs (i + 2)).toNatClampNeg + (xs (i + 3)).toNatClampNeg))) else np) pk pn) := kD_same hDM rfl
  refine lv_icmp_eq (tgt := 599) hx hb dL_law_594 (by decide) (fun c594 => ?_) (fun c594 => ?_)
  · refine lv_iinc (v := nI (i + 7)) (lv' := [(3, .int (nI (i + 7))), (0, .ref b), (1, .ref h0), (2, .ref g0)]) hx hb dL_law_599 hl (k := 3) rfl (nI_add i 7) (by decide) rfl (fun ls hl => ?_)
    refine lv_goto (tgt := 18) hx hb dL_law_602 (by decide) ?_
    have hk := eq_changed hI re nm np (xs (i + 1)) (xs (i + 2)) (xs (i + 3)) (xs (i + 4))
    rw [hk.2.1] at hPX hDX
    exact ih _ _ _ _ _ _ _ _ _ _ _ _ _ _ _ _ hk.2.2 H locs hPX hPM hDX hDM hS ls (lv_sub hl [1, 2, 3, 0] rfl)
  · exact absurd ((eq_changed hI re nm np (xs (i + 1)) (xs (i + 2)) (xs (i + 3)) (xs (i + 4))).1) c594
-- END cases
