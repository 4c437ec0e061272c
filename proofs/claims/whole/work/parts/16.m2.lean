def kTM (tm : Nat → Int32) (tM : Nat → Nat) (mt : Nat) : Prop := ∀ i, i < mt → tm i = nI (tM i) ∧ tM i ≤ 10
theorem mmay_in {nc : Nat} {bl : Nat → Nat → Bool} {x y : Int32} {f e : Bool} (hn : nc ≤ 12) (h : ¬ bI (fM_may nc bl x y f e) = 0) : vp_in x (20 + nc) ∧ vp_in y (20 + nc) := by
  by_cases c : bI (fM_isKind nc x) = 0
  · exact absurd (by rw [fM_may, if_pos c]; rfl) h
  · by_cases c2 : bI (fM_isKind nc y) = 0
    · exact absurd (by rw [fM_may, if_neg c, if_pos c2]; rfl) h
    · exact ⟨mK_in hn c, mK_in hn c2⟩
theorem mnw_in {nw : Nat} (hn : nw ≤ 20) (h : ¬ nI nw = 20) : vp_in (nI nw) 20 := vp_in_nI (by
  have : nw ≠ 20 := fun q => h (by rw [q]; rfl)
  omega) (by decide)
theorem mnc_in {nc : Nat} (hn : nc ≤ 12) (h : ¬ nI nc = 12) : vp_in (nI nc) 12 := vp_in_nI (by
  have : nc ≠ 12 := fun q => h (by rw [q]; rfl)
  omega) (by decide)
theorem mnc_r (nc : Nat) : (20 : Int32) + nI (nc + 1) - 1 = nI (20 + nc) := by
  rw [show (20 : Int32) + nI (nc + 1) = nI (20 + nc + 1) from nI_add 20 (nc + 1), nI_pred]
theorem mix_in {mt : Nat} {tm : Nat → Int32} {tM : Nat → Nat} {x1 x2 : Int32} (hmt : mt ≤ 300) (hTM : kTM tm tM mt) (c5 : ¬ bI (fM_isType mt x1) = 0) (c36 : ¬ x2 < 0) (c46 : ¬ tm x1.toNatClampNeg ≤ x2) : vp_in ((10 : Int32) * x1 + x2) 3000 := by
  obtain ⟨i, hi, rfl⟩ := vp_in_of (mT_in hmt c5) (by omega)
  obtain ⟨k, hk, rfl⟩ := nI_of c36
  obtain ⟨e, h10⟩ := hTM i hi
  rw [nI_clamp (by omega), e] at c46
  have : k < tM i := Nat.not_le.mp (fun q => c46 (nI_le q hk))
  rw [ix10]
  exact vp_in_nI (by omega) (by decide)
theorem mall_mono {P : Nat → Bool} {n d : Nat} (hd : d ≤ n) (h : mall P d = false) : mall P n = false := by
  cases hm : mall P n
  · rfl
  · rw [(mall_iff P d).mpr (fun k hk => (mall_iff P n).mp hm k (by omega))] at h
    cases h

set_option maxHeartbeats 4000000 in
set_option maxRecDepth 100000 in
theorem cM_kept (l : Launch) (dC : Nat → ClassId) (dI : Nat → Nat → Nat) (g0 gp gr gm gl gw gn : Nat) (cI : ClassId) (pv : Nat → Int32) (nc : Nat) (tr : Nat → Int32) (tm : Nat → Int32) (tp : Nat → Int32) (mt : Nat) (wv : Nat → Int32) (nw : Nat) (re : Int32) (nm : Nat) (np : Nat → Int32) (kk : Int32) (kn : Int64) (x1 : Int32) (x2 : Int64) : Met l yX1_kept wsZ1_kept ({ frames := 0, cells := 0, slots := 0, locals := 0 }) (kPw (dC, dI) vwCl [(cI, .int)] (mW g0 gp gr gm gl gw gn cI pv nc tr tm tp mt wv nw re nm np kk kn) [.ref g0, .int x1, .long x2]) (kQw (dC, dI) vwCl (some (.int (0 : Int32))) (mW g0 gp gr gm gl gw gn cI pv nc tr tm tp mt wv nw re nm np x1 x2) [g0, gp, gr, gm, gl, gw, gn]) 0 0 (fun q => q ∈ [g0, gp, gr, gm, gl, gw, gn]) := by
  refine Met.ofW (cc := cX1_kept) (maxL := 4) (ret := (some .int)) (by decide) rfl ?_
  intro p e s m args below meth c s₁ B hml hv
  obtain ⟨rfl, hP, hK, hD0⟩ := hv
  have hx := B.exec
  have hb := B.bytes
  have hr := B.returns
  have hts := atoms_spec (ws := wsZ1_kept) B.pre
  have hown : s.vm.findClass RX1 = some m.cls := findClass_of_methodNamed B.named
  have hlocks := B.notSynchronized
  have hin : ∀ w ∈ u_ws RX1 TX1 13, w ∈ wsZ1_kept := fun w h => List.mem_cons_of_mem _ (inZ1 w h)
  have hD : va_D (fun q => q ∈ [g0, gp, gr, gm, gl, gw, gn]) (mW g0 gp gr gm gl gw gn cI pv nc tr tm tp mt wv nw re nm np kk kn) := kD_self hD0 rfl
  have hS : va_S (fun q => q ∈ [g0, gp, gr, gm, gl, gw, gn]) s.heap s.heap [] := va_S.rf
  have hl := lv_entry ([.ref g0, .int x1, .long x2]) (n := 4) (Nat.le_of_ble_eq_true rfl)
  rw [lg_entry_eq]
  generalize (lg_sl ([.ref g0, .int x1, .long x2]) ++ List.replicate (4 - (lg_sl ([.ref g0, .int x1, .long x2])).length) Slot.unset).toArray = ls at hl ⊢
  have hl : lv_has ls 4 [(0, .ref g0), (1, .int x1), (2, .long x2)] := hl
  refine lv_aload_n hx hb dX1_kept_0 rfl (lv_at hl 0 rfl) ?_
  refine lv_iload_n hx hb dX1_kept_1 rfl (lv_at hl 1 rfl) ?_
  refine va_put (D := (dC, dI)) (ci := 1) (v := .int x1) (ty := .int) (C := RX1) (T := TX1) (N := 13) hx hb hts hin tyX1 tyX1_ok nmX1 hown hK hP hD hS 0 rfl rfl 11 (by decide) (hts _ (List.mem_cons_of_mem _ tk_fl_75)) (fun _ h9 => h9) rfl (by decide +kernel) rfl rfl (Nat.le_of_ble_eq_true rfl) dX1_kept_2 (fun H locs hP hD hS => ?_)
  have hP : va_P (dC, dI) vwCl (mW g0 gp gr gm gl gw gn cI pv nc tr tm tp mt wv nw re nm np x1 kn) H := hP
  have hD : va_D _ (mW g0 gp gr gm gl gw gn cI pv nc tr tm tp mt wv nw re nm np x1 kn) := hD
  refine lv_aload_n hx hb dX1_kept_5 rfl (lv_at hl 0 rfl) ?_
  refine lv_lload_n hx hb dX1_kept_6 rfl (lv_at hl 2 rfl) ?_
  refine va_put (D := (dC, dI)) (ci := 1) (v := .long x2) (ty := .long) (C := RX1) (T := TX1) (N := 13) hx hb hts hin tyX1 tyX1_ok nmX1 hown hK hP hD hS 0 rfl rfl 12 (by decide) (hts _ (List.mem_cons_of_mem _ tk_fl_78)) (fun _ h9 => h9) rfl (by decide +kernel) rfl rfl (Nat.le_of_ble_eq_true rfl) dX1_kept_7 (fun H locs hP hD hS => ?_)
  have hP : va_P (dC, dI) vwCl (mW g0 gp gr gm gl gw gn cI pv nc tr tm tp mt wv nw re nm np x1 x2) H := hP
  have hD : va_D _ (mW g0 gp gr gm gl gw gn cI pv nc tr tm tp mt wv nw re nm np x1 x2) := hD
  refine lv_iconst (v := 0) hx hb dX1_kept_10 (by decide) ?_
  exact W.iret hx hb hr (fun t ht hW => ⟨rfl, by rw [ht]; exact hP, hS.F ht⟩) hS.2.2 dX1_kept_11
def fM_pass (nc : Nat) (kk : Int32) (kn : Int64) (bl : Nat → Nat → Bool) (x1 : Int32) (x2 : Int32) (x3 : Bool) (x4 : Int32) (x5 : Int64) : Int32 × Int32 × Int64 := if (bI (fM_may nc bl x1 x2 x3 false)) = 0 then ((-1 : Int32), kk, kn) else if (bI (fM_isPlain x1)) = 0 then if x4 = 0 then if (bI (fM_isReference x2)) = 0 then if (bI x3) = 0 then if x1 = x2 then ((0 : Int32), (0 : Int32), (0 : Int64)) else ((1 : Int32), kk, kn) else ((0 : Int32), (0 : Int32), (0 : Int64)) else ((0 : Int32), (0 : Int32), (0 : Int64)) else if (bI (fM_isObject nc x4)) = 0 then ((-1 : Int32), kk, kn) else if (bI (blI bl x4 x1)) = 0 then ((-1 : Int32), kk, kn) else if (bI (fM_isBox x4)) = 0 then if (bI (fM_isReference x2)) = 0 then if (bI (fM_isBox x4)) = 0 then ((2 : Int32), kk, kn) else if (bI x3) = 0 then if (bI (fM_widens (x4 - (8 : Int32)) x2)) = 0 then ((2 : Int32), kk, kn) else if (bI x3) = 0 then ((0 : Int32), (0 : Int32), x5) else ((0 : Int32), (0 : Int32), (fM_forcedTo x2 x5)) else if (bI x3) = 0 then ((0 : Int32), (0 : Int32), x5) else ((0 : Int32), (0 : Int32), (fM_forcedTo x2 x5)) else if (bI (blI bl x4 x2)) = 0 then ((2 : Int32), kk, kn) else ((0 : Int32), x4, x5) else if (bI (fM_isNumber (x4 - (8 : Int32)) x5)) = 0 then ((-1 : Int32), kk, kn) else if (bI (fM_isReference x2)) = 0 then if (bI (fM_isBox x4)) = 0 then ((2 : Int32), kk, kn) else if (bI x3) = 0 then if (bI (fM_widens (x4 - (8 : Int32)) x2)) = 0 then ((2 : Int32), kk, kn) else if (bI x3) = 0 then ((0 : Int32), (0 : Int32), x5) else ((0 : Int32), (0 : Int32), (fM_forcedTo x2 x5)) else if (bI x3) = 0 then ((0 : Int32), (0 : Int32), x5) else ((0 : Int32), (0 : Int32), (fM_forcedTo x2 x5)) else if (bI (blI bl x4 x2)) = 0 then ((2 : Int32), kk, kn) else ((0 : Int32), x4, x5) else if (bI (fM_isNumber x1 x5)) = 0 then ((-1 : Int32), kk, kn) else if (bI (fM_isPlain x2)) = 0 then ((0 : Int32), (x1 + (8 : Int32)), x5) else if (bI x3) = 0 then ((0 : Int32), (0 : Int32), x5) else ((0 : Int32), (0 : Int32), (fM_forcedTo x2 x5))
set_option maxHeartbeats 4000000 in
set_option maxRecDepth 100000 in
theorem cM_pass (l : Launch) (dC : Nat → ClassId) (dI : Nat → Nat → Nat) (g0 gp gr gm gl gw gn : Nat) (cI : ClassId) (pv : Nat → Int32) (nc : Nat) (tr : Nat → Int32) (tm : Nat → Int32) (tp : Nat → Int32) (mt : Nat) (wv : Nat → Int32) (nw : Nat) (re : Int32) (nm : Nat) (np : Nat → Int32) (kk : Int32) (kn : Int64) (bl : Nat → Nat → Bool) (pr : Nat → Nat) (x1 : Int32) (x2 : Int32) (x3 : Bool) (x4 : Int32) (x5 : Int64) (hPV : kPV pv pr nc) (hBL : kBL bl pr nc) (hnc : nc ≤ 12) : Met l yX1_pass wsZ1_pass ({ frames := 4, cells := 0, slots := 0, locals := 91 }) (kPw (dC, dI) vwCl [(cI, .int)] (mW g0 gp gr gm gl gw gn cI pv nc tr tm tp mt wv nw re nm np kk kn) [.ref g0, .int x1, .int x2, .int (bI x3), .int x4, .long x5]) (kQw (dC, dI) vwCl (some (.int ((fM_pass nc kk kn bl x1 x2 x3 x4 x5).1))) (mW g0 gp gr gm gl gw gn cI pv nc tr tm tp mt wv nw re nm np ((fM_pass nc kk kn bl x1 x2 x3 x4 x5).2.1) ((fM_pass nc kk kn bl x1 x2 x3 x4 x5).2.2)) [g0, gp, gr, gm, gl, gw, gn]) 0 0 (fun q => q ∈ [g0, gp, gr, gm, gl, gw, gn]) := by
  refine Met.ofW (cc := cX1_pass) (maxL := 7) (ret := (some .int)) (by decide) rfl ?_
  intro p e s m args below meth c s₁ B hml hv
  obtain ⟨rfl, hP, hK, hD0⟩ := hv
  have hx := B.exec
  have hb := B.bytes
  have hr := B.returns
  have hts := atoms_spec (ws := wsZ1_pass) B.pre
  have hown : s.vm.findClass RX1 = some m.cls := findClass_of_methodNamed B.named
  have hlocks := B.notSynchronized
  have hD : va_D (fun q => q ∈ [g0, gp, gr, gm, gl, gw, gn]) (mW g0 gp gr gm gl gw gn cI pv nc tr tm tp mt wv nw re nm np kk kn) := kD_self hD0 rfl
  have hS : va_S (fun q => q ∈ [g0, gp, gr, gm, gl, gw, gn]) s.heap s.heap [] := va_S.rf
  have hl := lv_entry ([.ref g0, .int x1, .int x2, .int (bI x3), .int x4, .long x5]) (n := 7) (Nat.le_of_ble_eq_true rfl)
  rw [lg_entry_eq]
  generalize (lg_sl ([.ref g0, .int x1, .int x2, .int (bI x3), .int x4, .long x5]) ++ List.replicate (7 - (lg_sl ([.ref g0, .int x1, .int x2, .int (bI x3), .int x4, .long x5])).length) Slot.unset).toArray = ls at hl ⊢
  have hl : lv_has ls 7 [(0, .ref g0), (1, .int x1), (2, .int x2), (3, .int (bI x3)), (4, .int x4), (5, .long x5)] := hl
  refine lv_aload_n hx hb dX1_pass_0 rfl (lv_at hl 0 rfl) ?_
  refine lv_iload_n hx hb dX1_pass_1 rfl (lv_at hl 1 rfl) ?_
  refine lv_iload_n hx hb dX1_pass_2 rfl (lv_at hl 2 rfl) ?_
  refine lv_iload_n hx hb dX1_pass_3 rfl (lv_at hl 3 rfl) ?_
  refine lv_iconst (v := 0) hx hb dX1_pass_4 (by decide) ?_
  refine kc_R [.int x1, .int x2, .int (bI x3), .int 0] [] ⟨hx, hb, hml, hown, hts⟩ (cM_may l dC dI g0 gp gr gm gl gw gn cI pv nc tr tm tp mt wv nw re nm np kk kn bl pr x1 x2 x3 false hPV hBL hnc) (cwV 4 hts gZ_pass_may rfl rfl rfl (by decide +kernel) ⟨(Nat.le_of_ble_eq_true rfl), (Nat.le_of_ble_eq_true rfl)⟩) hP hK (ci := 1) (q0 := 0) rfl rfl rfl rfl hl.1 rfl (Nat.le_of_ble_eq_true rfl) dX1_pass_5 ⟨Nat.zero_le _, Nat.zero_le _⟩ ?_
  refine lv_if_ne (tgt := 13) hx hb dX1_pass_8 (by decide) (fun c8 => ?_) (fun c8 => ?_)
  · refine lv_iload_n hx hb dX1_pass_13 rfl (lv_at hl 1 rfl) ?_
    refine kc_S [.int x1] [] ⟨hx, hb, hml, hown, hts⟩ (cM_isPlain l x1) (cwS 1 hts gZ_pass_isPlain rfl rfl rfl (by decide +kernel) ⟨(Nat.le_of_ble_eq_true rfl), (Nat.le_of_ble_eq_true rfl)⟩) rfl hl.1 rfl (Nat.le_of_ble_eq_true rfl) dX1_pass_14 ⟨Nat.zero_le _, Nat.zero_le _⟩ ?_
    refine lv_if_eq (tgt := 70) hx hb dX1_pass_17 (by decide) (fun c17 => ?_) (fun c17 => ?_)
    · refine lv_iload hx hb dX1_pass_70 (lv_at hl 4 rfl) ?_
      refine lv_if_ne (tgt := 118) hx hb dX1_pass_72 (by decide) (fun c72 => ?_) (fun c72 => ?_)
      · refine lv_aload_n hx hb dX1_pass_118 rfl (lv_at hl 0 rfl) ?_
        refine lv_iload hx hb dX1_pass_119 (lv_at hl 4 rfl) ?_
        refine kc_R [.int x4] [] ⟨hx, hb, hml, hown, hts⟩ (cM_isObject l dC dI g0 gp gr gm gl gw gn cI pv nc tr tm tp mt wv nw re nm np kk kn x4) (cwV 1 hts gZ_pass_isObject rfl rfl rfl (by decide +kernel) ⟨(Nat.le_of_ble_eq_true rfl), (Nat.le_of_ble_eq_true rfl)⟩) hP hK (ci := 1) (q0 := 0) rfl rfl rfl rfl hl.1 rfl (Nat.le_of_ble_eq_true rfl) dX1_pass_121 ⟨Nat.zero_le _, Nat.zero_le _⟩ ?_
        refine lv_if_eq (tgt := 158) hx hb dX1_pass_124 (by decide) (fun c124 => ?_) (fun c124 => ?_)
        · refine lv_iconst (v := -1) hx hb dX1_pass_158 (by decide) ?_
          exact W.iret hx hb hr (fun t ht hW => ⟨by rw [fM_pass, if_neg c8, if_pos c17, if_neg c72, if_pos c124] <;> rfl, by rw [ht, fM_pass, if_neg c8, if_pos c17, if_neg c72, if_pos c124]; exact hP, hS.F ht⟩) hS.2.2 dX1_pass_159
        · refine lv_aload_n hx hb dX1_pass_127 rfl (lv_at hl 0 rfl) ?_
          refine lv_iload hx hb dX1_pass_128 (lv_at hl 4 rfl) ?_
          refine lv_iload_n hx hb dX1_pass_130 rfl (lv_at hl 1 rfl) ?_
          refine kc_R [.int x4, .int x1] [] ⟨hx, hb, hml, hown, hts⟩ (cM_isBelow l dC dI g0 gp gr gm gl gw gn cI pv nc tr tm tp mt wv nw re nm np kk kn bl pr x4 x1 hPV hBL hnc (mO_in hnc c124) (vp_in_mono (mmay_in hnc c8).1 (by omega))) (cwV 2 hts gZ_pass_isBelow rfl rfl rfl (by decide +kernel) ⟨(Nat.le_of_ble_eq_true rfl), (Nat.le_of_ble_eq_true rfl)⟩) hP hK (ci := 1) (q0 := 0) rfl rfl rfl rfl hl.1 rfl (Nat.le_of_ble_eq_true rfl) dX1_pass_131 ⟨Nat.zero_le _, Nat.zero_le _⟩ ?_
          refine lv_if_eq (tgt := 158) hx hb dX1_pass_134 (by decide) (fun c134 => ?_) (fun c134 => ?_)
          · refine lv_iconst (v := -1) hx hb dX1_pass_158 (by decide) ?_
            exact W.iret hx hb hr (fun t ht hW => ⟨by rw [fM_pass, if_neg c8, if_pos c17, if_neg c72, if_neg c124, if_pos c134] <;> rfl, by rw [ht, fM_pass, if_neg c8, if_pos c17, if_neg c72, if_neg c124, if_pos c134]; exact hP, hS.F ht⟩) hS.2.2 dX1_pass_159
          · refine lv_iload hx hb dX1_pass_137 (lv_at hl 4 rfl) ?_
            refine kc_S [.int x4] [] ⟨hx, hb, hml, hown, hts⟩ (cM_isBox l x4) (cwS 1 hts gZ_pass_isBox rfl rfl rfl (by decide +kernel) ⟨(Nat.le_of_ble_eq_true rfl), (Nat.le_of_ble_eq_true rfl)⟩) rfl hl.1 rfl (Nat.le_of_ble_eq_true rfl) dX1_pass_139 ⟨Nat.zero_le _, Nat.zero_le _⟩ ?_
            refine lv_if_eq (tgt := 160) hx hb dX1_pass_142 (by decide) (fun c142 => ?_) (fun c142 => ?_)
            · refine lv_iload_n hx hb dX1_pass_160 rfl (lv_at hl 2 rfl) ?_
              refine kc_S [.int x2] [] ⟨hx, hb, hml, hown, hts⟩ (cM_isReference l x2) (cwS 1 hts gZ_pass_isReference rfl rfl rfl (by decide +kernel) ⟨(Nat.le_of_ble_eq_true rfl), (Nat.le_of_ble_eq_true rfl)⟩) rfl hl.1 rfl (Nat.le_of_ble_eq_true rfl) dX1_pass_161 ⟨Nat.zero_le _, Nat.zero_le _⟩ ?_
              refine lv_if_eq (tgt := 190) hx hb dX1_pass_164 (by decide) (fun c164 => ?_) (fun c164 => ?_)
              · refine lv_iload hx hb dX1_pass_190 (lv_at hl 4 rfl) ?_
                refine kc_S [.int x4] [] ⟨hx, hb, hml, hown, hts⟩ (cM_isBox l x4) (cwS 1 hts gZ_pass_isBox rfl rfl rfl (by decide +kernel) ⟨(Nat.le_of_ble_eq_true rfl), (Nat.le_of_ble_eq_true rfl)⟩) rfl hl.1 rfl (Nat.le_of_ble_eq_true rfl) dX1_pass_192 ⟨Nat.zero_le _, Nat.zero_le _⟩ ?_
                refine lv_if_eq (tgt := 214) hx hb dX1_pass_195 (by decide) (fun c195 => ?_) (fun c195 => ?_)
                · refine lv_iconst (v := 2) hx hb dX1_pass_214 (by decide) ?_
                  exact W.iret hx hb hr (fun t ht hW => ⟨by rw [fM_pass, if_neg c8, if_pos c17, if_neg c72, if_neg c124, if_neg c134, if_pos c142, if_pos c164, if_pos c195] <;> rfl, by rw [ht, fM_pass, if_neg c8, if_pos c17, if_neg c72, if_neg c124, if_neg c134, if_pos c142, if_pos c164, if_pos c195]; exact hP, hS.F ht⟩) hS.2.2 dX1_pass_215
                · refine lv_iload_n hx hb dX1_pass_198 rfl (lv_at hl 3 rfl) ?_
                  refine lv_if_ne (tgt := 216) hx hb dX1_pass_199 (by decide) (fun c199 => ?_) (fun c199 => ?_)
                  · refine lv_aload_n hx hb dX1_pass_216 rfl (lv_at hl 0 rfl) ?_
                    refine lv_iconst (v := 0) hx hb dX1_pass_217 (by decide) ?_
                    refine lv_iload_n hx hb dX1_pass_218 rfl (lv_at hl 3 rfl) ?_
                    refine lv_if_eq (tgt := 231) hx hb dX1_pass_219 (by decide) (fun c219 => ?_) (fun c219 => ?_)
                    · refine lv_lload hx hb dX1_pass_231 (lv_at hl 5 rfl) ?_
                      refine kc_W [.int 0, .long x5] [] ⟨hx, hb, hml, hown, hts⟩ (cM_kept l dC dI g0 gp gr gm gl gw gn cI pv nc tr tm tp mt wv nw re nm np kk kn (0 : Int32) x5) (cwV 2 hts gZ_pass_kept rfl rfl rfl (by decide +kernel) ⟨(Nat.le_of_ble_eq_true rfl), (Nat.le_of_ble_eq_true rfl)⟩) hP hK hD hS rfl (ci := 1) (q0 := 0) rfl rfl rfl rfl hl.1 rfl (Nat.le_of_ble_eq_true rfl) dX1_pass_233 ⟨Nat.zero_le _, Nat.zero_le _⟩ (fun H locs hP1 hS hk1 => ?_)
                      have hP : va_P (dC, dI) vwCl (mW g0 gp gr gm gl gw gn cI pv nc tr tm tp mt wv nw re nm np (0 : Int32) x5) H := hP1
                      have hD : va_D _ (mW g0 gp gr gm gl gw gn cI pv nc tr tm tp mt wv nw re nm np (0 : Int32) x5) := kD_same hD rfl
                      exact W.iret hx hb hr (fun t ht hW => ⟨by rw [fM_pass, if_neg c8, if_pos c17, if_neg c72, if_neg c124, if_neg c134, if_pos c142, if_pos c164, if_neg c195, if_neg c199, if_pos c219] <;> rfl, by rw [ht, fM_pass, if_neg c8, if_pos c17, if_neg c72, if_neg c124, if_neg c134, if_pos c142, if_pos c164, if_neg c195, if_neg c199, if_pos c219]; exact hP, hS.F ht⟩) hS.2.2 dX1_pass_236
                    · refine lv_iload_n hx hb dX1_pass_222 rfl (lv_at hl 2 rfl) ?_
                      refine lv_lload hx hb dX1_pass_223 (lv_at hl 5 rfl) ?_
                      refine kc_S [.int x2, .long x5] [.int 0, .ref g0] ⟨hx, hb, hml, hown, hts⟩ (cM_forcedTo l x2 x5) (cwS 2 hts gZ_pass_forcedTo rfl rfl rfl (by decide +kernel) ⟨(Nat.le_of_ble_eq_true rfl), (Nat.le_of_ble_eq_true rfl)⟩) rfl hl.1 rfl (Nat.le_of_ble_eq_true rfl) dX1_pass_225 ⟨Nat.zero_le _, Nat.zero_le _⟩ ?_
                      refine lv_goto (tgt := 233) hx hb dX1_pass_228 (by decide) ?_
                      refine kc_W [.int 0, .long (fM_forcedTo x2 x5)] [] ⟨hx, hb, hml, hown, hts⟩ (cM_kept l dC dI g0 gp gr gm gl gw gn cI pv nc tr tm tp mt wv nw re nm np kk kn (0 : Int32) (fM_forcedTo x2 x5)) (cwV 2 hts gZ_pass_kept rfl rfl rfl (by decide +kernel) ⟨(Nat.le_of_ble_eq_true rfl), (Nat.le_of_ble_eq_true rfl)⟩) hP hK hD hS rfl (ci := 1) (q0 := 0) rfl rfl rfl rfl hl.1 rfl (Nat.le_of_ble_eq_true rfl) dX1_pass_233 ⟨Nat.zero_le _, Nat.zero_le _⟩ (fun H locs hP1 hS hk1 => ?_)
                      have hP : va_P (dC, dI) vwCl (mW g0 gp gr gm gl gw gn cI pv nc tr tm tp mt wv nw re nm np (0 : Int32) (fM_forcedTo x2 x5)) H := hP1
                      have hD : va_D _ (mW g0 gp gr gm gl gw gn cI pv nc tr tm tp mt wv nw re nm np (0 : Int32) (fM_forcedTo x2 x5)) := kD_same hD rfl
                      exact W.iret hx hb hr (fun t ht hW => ⟨by rw [fM_pass, if_neg c8, if_pos c17, if_neg c72, if_neg c124, if_neg c134, if_pos c142, if_pos c164, if_neg c195, if_neg c199, if_neg c219] <;> rfl, by rw [ht, fM_pass, if_neg c8, if_pos c17, if_neg c72, if_neg c124, if_neg c134, if_pos c142, if_pos c164, if_neg c195, if_neg c199, if_neg c219]; exact hP, hS.F ht⟩) hS.2.2 dX1_pass_236
                  · refine lv_iload hx hb dX1_pass_202 (lv_at hl 4 rfl) ?_
                    refine lv_bipush (v := 8) hx hb dX1_pass_204 (by decide) ?_
                    refine lv_isub hx hb dX1_pass_206 ?_
                    refine lv_iload_n hx hb dX1_pass_207 rfl (lv_at hl 2 rfl) ?_
                    refine kc_S [.int (x4 - (8 : Int32)), .int x2] [] ⟨hx, hb, hml, hown, hts⟩ (cM_widens l (x4 - (8 : Int32)) x2) (cwS 2 hts gZ_pass_widens rfl rfl rfl (by decide +kernel) ⟨(Nat.le_of_ble_eq_true rfl), (Nat.le_of_ble_eq_true rfl)⟩) rfl hl.1 rfl (Nat.le_of_ble_eq_true rfl) dX1_pass_208 ⟨Nat.zero_le _, Nat.zero_le _⟩ ?_
                    refine lv_if_ne (tgt := 216) hx hb dX1_pass_211 (by decide) (fun c211 => ?_) (fun c211 => ?_)
                    · refine lv_aload_n hx hb dX1_pass_216 rfl (lv_at hl 0 rfl) ?_
                      refine lv_iconst (v := 0) hx hb dX1_pass_217 (by decide) ?_
                      refine lv_iload_n hx hb dX1_pass_218 rfl (lv_at hl 3 rfl) ?_
                      refine lv_if_eq (tgt := 231) hx hb dX1_pass_219 (by decide) (fun c219 => ?_) (fun c219 => ?_)
                      · refine lv_lload hx hb dX1_pass_231 (lv_at hl 5 rfl) ?_
                        refine kc_W [.int 0, .long x5] [] ⟨hx, hb, hml, hown, hts⟩ (cM_kept l dC dI g0 gp gr gm gl gw gn cI pv nc tr tm tp mt wv nw re nm np kk kn (0 : Int32) x5) (cwV 2 hts gZ_pass_kept rfl rfl rfl (by decide +kernel) ⟨(Nat.le_of_ble_eq_true rfl), (Nat.le_of_ble_eq_true rfl)⟩) hP hK hD hS rfl (ci := 1) (q0 := 0) rfl rfl rfl rfl hl.1 rfl (Nat.le_of_ble_eq_true rfl) dX1_pass_233 ⟨Nat.zero_le _, Nat.zero_le _⟩ (fun H locs hP1 hS hk1 => ?_)
                        have hP : va_P (dC, dI) vwCl (mW g0 gp gr gm gl gw gn cI pv nc tr tm tp mt wv nw re nm np (0 : Int32) x5) H := hP1
                        have hD : va_D _ (mW g0 gp gr gm gl gw gn cI pv nc tr tm tp mt wv nw re nm np (0 : Int32) x5) := kD_same hD rfl
                        exact W.iret hx hb hr (fun t ht hW => ⟨by rw [fM_pass, if_neg c8, if_pos c17, if_neg c72, if_neg c124, if_neg c134, if_pos c142, if_pos c164, if_neg c195, if_pos c199, if_neg c211, if_pos c219] <;> rfl, by rw [ht, fM_pass, if_neg c8, if_pos c17, if_neg c72, if_neg c124, if_neg c134, if_pos c142, if_pos c164, if_neg c195, if_pos c199, if_neg c211, if_pos c219]; exact hP, hS.F ht⟩) hS.2.2 dX1_pass_236
                      · refine lv_iload_n hx hb dX1_pass_222 rfl (lv_at hl 2 rfl) ?_
                        refine lv_lload hx hb dX1_pass_223 (lv_at hl 5 rfl) ?_
                        refine kc_S [.int x2, .long x5] [.int 0, .ref g0] ⟨hx, hb, hml, hown, hts⟩ (cM_forcedTo l x2 x5) (cwS 2 hts gZ_pass_forcedTo rfl rfl rfl (by decide +kernel) ⟨(Nat.le_of_ble_eq_true rfl), (Nat.le_of_ble_eq_true rfl)⟩) rfl hl.1 rfl (Nat.le_of_ble_eq_true rfl) dX1_pass_225 ⟨Nat.zero_le _, Nat.zero_le _⟩ ?_
                        refine lv_goto (tgt := 233) hx hb dX1_pass_228 (by decide) ?_
                        refine kc_W [.int 0, .long (fM_forcedTo x2 x5)] [] ⟨hx, hb, hml, hown, hts⟩ (cM_kept l dC dI g0 gp gr gm gl gw gn cI pv nc tr tm tp mt wv nw re nm np kk kn (0 : Int32) (fM_forcedTo x2 x5)) (cwV 2 hts gZ_pass_kept rfl rfl rfl (by decide +kernel) ⟨(Nat.le_of_ble_eq_true rfl), (Nat.le_of_ble_eq_true rfl)⟩) hP hK hD hS rfl (ci := 1) (q0 := 0) rfl rfl rfl rfl hl.1 rfl (Nat.le_of_ble_eq_true rfl) dX1_pass_233 ⟨Nat.zero_le _, Nat.zero_le _⟩ (fun H locs hP1 hS hk1 => ?_)
                        have hP : va_P (dC, dI) vwCl (mW g0 gp gr gm gl gw gn cI pv nc tr tm tp mt wv nw re nm np (0 : Int32) (fM_forcedTo x2 x5)) H := hP1
                        have hD : va_D _ (mW g0 gp gr gm gl gw gn cI pv nc tr tm tp mt wv nw re nm np (0 : Int32) (fM_forcedTo x2 x5)) := kD_same hD rfl
                        exact W.iret hx hb hr (fun t ht hW => ⟨by rw [fM_pass, if_neg c8, if_pos c17, if_neg c72, if_neg c124, if_neg c134, if_pos c142, if_pos c164, if_neg c195, if_pos c199, if_neg c211, if_neg c219] <;> rfl, by rw [ht, fM_pass, if_neg c8, if_pos c17, if_neg c72, if_neg c124, if_neg c134, if_pos c142, if_pos c164, if_neg c195, if_pos c199, if_neg c211, if_neg c219]; exact hP, hS.F ht⟩) hS.2.2 dX1_pass_236
                    · refine lv_iconst (v := 2) hx hb dX1_pass_214 (by decide) ?_
                      exact W.iret hx hb hr (fun t ht hW => ⟨by rw [fM_pass, if_neg c8, if_pos c17, if_neg c72, if_neg c124, if_neg c134, if_pos c142, if_pos c164, if_neg c195, if_pos c199, if_pos c211] <;> rfl, by rw [ht, fM_pass, if_neg c8, if_pos c17, if_neg c72, if_neg c124, if_neg c134, if_pos c142, if_pos c164, if_neg c195, if_pos c199, if_pos c211]; exact hP, hS.F ht⟩) hS.2.2 dX1_pass_215
              · refine lv_aload_n hx hb dX1_pass_167 rfl (lv_at hl 0 rfl) ?_
                refine lv_iload hx hb dX1_pass_168 (lv_at hl 4 rfl) ?_
                refine lv_iload_n hx hb dX1_pass_170 rfl (lv_at hl 2 rfl) ?_
                refine kc_R [.int x4, .int x2] [] ⟨hx, hb, hml, hown, hts⟩ (cM_isBelow l dC dI g0 gp gr gm gl gw gn cI pv nc tr tm tp mt wv nw re nm np kk kn bl pr x4 x2 hPV hBL hnc (mO_in hnc c124) (vp_in_mono (mmay_in hnc c8).2 (by omega))) (cwV 2 hts gZ_pass_isBelow rfl rfl rfl (by decide +kernel) ⟨(Nat.le_of_ble_eq_true rfl), (Nat.le_of_ble_eq_true rfl)⟩) hP hK (ci := 1) (q0 := 0) rfl rfl rfl rfl hl.1 rfl (Nat.le_of_ble_eq_true rfl) dX1_pass_171 ⟨Nat.zero_le _, Nat.zero_le _⟩ ?_
                refine lv_if_eq (tgt := 188) hx hb dX1_pass_174 (by decide) (fun c174 => ?_) (fun c174 => ?_)
                · refine lv_iconst (v := 2) hx hb dX1_pass_188 (by decide) ?_
                  exact W.iret hx hb hr (fun t ht hW => ⟨by rw [fM_pass, if_neg c8, if_pos c17, if_neg c72, if_neg c124, if_neg c134, if_pos c142, if_neg c164, if_pos c174] <;> rfl, by rw [ht, fM_pass, if_neg c8, if_pos c17, if_neg c72, if_neg c124, if_neg c134, if_pos c142, if_neg c164, if_pos c174]; exact hP, hS.F ht⟩) hS.2.2 dX1_pass_189
                · refine lv_aload_n hx hb dX1_pass_177 rfl (lv_at hl 0 rfl) ?_
                  refine lv_iload hx hb dX1_pass_178 (lv_at hl 4 rfl) ?_
                  refine lv_lload hx hb dX1_pass_180 (lv_at hl 5 rfl) ?_
                  refine kc_W [.int x4, .long x5] [] ⟨hx, hb, hml, hown, hts⟩ (cM_kept l dC dI g0 gp gr gm gl gw gn cI pv nc tr tm tp mt wv nw re nm np kk kn x4 x5) (cwV 2 hts gZ_pass_kept rfl rfl rfl (by decide +kernel) ⟨(Nat.le_of_ble_eq_true rfl), (Nat.le_of_ble_eq_true rfl)⟩) hP hK hD hS rfl (ci := 1) (q0 := 0) rfl rfl rfl rfl hl.1 rfl (Nat.le_of_ble_eq_true rfl) dX1_pass_182 ⟨Nat.zero_le _, Nat.zero_le _⟩ (fun H locs hP1 hS hk1 => ?_)
                  have hP : va_P (dC, dI) vwCl (mW g0 gp gr gm gl gw gn cI pv nc tr tm tp mt wv nw re nm np x4 x5) H := hP1
                  have hD : va_D _ (mW g0 gp gr gm gl gw gn cI pv nc tr tm tp mt wv nw re nm np x4 x5) := kD_same hD rfl
                  refine lv_goto (tgt := 189) hx hb dX1_pass_185 (by decide) ?_
                  exact W.iret hx hb hr (fun t ht hW => ⟨by rw [fM_pass, if_neg c8, if_pos c17, if_neg c72, if_neg c124, if_neg c134, if_pos c142, if_neg c164, if_neg c174] <;> rfl, by rw [ht, fM_pass, if_neg c8, if_pos c17, if_neg c72, if_neg c124, if_neg c134, if_pos c142, if_neg c164, if_neg c174]; exact hP, hS.F ht⟩) hS.2.2 dX1_pass_189
            · refine lv_iload hx hb dX1_pass_145 (lv_at hl 4 rfl) ?_
              refine lv_bipush (v := 8) hx hb dX1_pass_147 (by decide) ?_
              refine lv_isub hx hb dX1_pass_149 ?_
              refine lv_lload hx hb dX1_pass_150 (lv_at hl 5 rfl) ?_
              refine kc_S [.int (x4 - (8 : Int32)), .long x5] [] ⟨hx, hb, hml, hown, hts⟩ (cM_isNumber l (x4 - (8 : Int32)) x5) (cwS 2 hts gZ_pass_isNumber rfl rfl rfl (by decide +kernel) ⟨(Nat.le_of_ble_eq_true rfl), (Nat.le_of_ble_eq_true rfl)⟩) rfl hl.1 rfl (Nat.le_of_ble_eq_true rfl) dX1_pass_152 ⟨Nat.zero_le _, Nat.zero_le _⟩ ?_
              refine lv_if_ne (tgt := 160) hx hb dX1_pass_155 (by decide) (fun c155 => ?_) (fun c155 => ?_)
              · refine lv_iload_n hx hb dX1_pass_160 rfl (lv_at hl 2 rfl) ?_
                refine kc_S [.int x2] [] ⟨hx, hb, hml, hown, hts⟩ (cM_isReference l x2) (cwS 1 hts gZ_pass_isReference rfl rfl rfl (by decide +kernel) ⟨(Nat.le_of_ble_eq_true rfl), (Nat.le_of_ble_eq_true rfl)⟩) rfl hl.1 rfl (Nat.le_of_ble_eq_true rfl) dX1_pass_161 ⟨Nat.zero_le _, Nat.zero_le _⟩ ?_
                refine lv_if_eq (tgt := 190) hx hb dX1_pass_164 (by decide) (fun c164 => ?_) (fun c164 => ?_)
                · refine lv_iload hx hb dX1_pass_190 (lv_at hl 4 rfl) ?_
                  refine kc_S [.int x4] [] ⟨hx, hb, hml, hown, hts⟩ (cM_isBox l x4) (cwS 1 hts gZ_pass_isBox rfl rfl rfl (by decide +kernel) ⟨(Nat.le_of_ble_eq_true rfl), (Nat.le_of_ble_eq_true rfl)⟩) rfl hl.1 rfl (Nat.le_of_ble_eq_true rfl) dX1_pass_192 ⟨Nat.zero_le _, Nat.zero_le _⟩ ?_
                  refine lv_if_eq (tgt := 214) hx hb dX1_pass_195 (by decide) (fun c195 => ?_) (fun c195 => ?_)
                  · refine lv_iconst (v := 2) hx hb dX1_pass_214 (by decide) ?_
                    exact W.iret hx hb hr (fun t ht hW => ⟨by rw [fM_pass, if_neg c8, if_pos c17, if_neg c72, if_neg c124, if_neg c134, if_neg c142, if_neg c155, if_pos c164, if_pos c195] <;> rfl, by rw [ht, fM_pass, if_neg c8, if_pos c17, if_neg c72, if_neg c124, if_neg c134, if_neg c142, if_neg c155, if_pos c164, if_pos c195]; exact hP, hS.F ht⟩) hS.2.2 dX1_pass_215
                  · refine lv_iload_n hx hb dX1_pass_198 rfl (lv_at hl 3 rfl) ?_
                    refine lv_if_ne (tgt := 216) hx hb dX1_pass_199 (by decide) (fun c199 => ?_) (fun c199 => ?_)
                    · refine lv_aload_n hx hb dX1_pass_216 rfl (lv_at hl 0 rfl) ?_
                      refine lv_iconst (v := 0) hx hb dX1_pass_217 (by decide) ?_
                      refine lv_iload_n hx hb dX1_pass_218 rfl (lv_at hl 3 rfl) ?_
                      refine lv_if_eq (tgt := 231) hx hb dX1_pass_219 (by decide) (fun c219 => ?_) (fun c219 => ?_)
                      · refine lv_lload hx hb dX1_pass_231 (lv_at hl 5 rfl) ?_
                        refine kc_W [.int 0, .long x5] [] ⟨hx, hb, hml, hown, hts⟩ (cM_kept l dC dI g0 gp gr gm gl gw gn cI pv nc tr tm tp mt wv nw re nm np kk kn (0 : Int32) x5) (cwV 2 hts gZ_pass_kept rfl rfl rfl (by decide +kernel) ⟨(Nat.le_of_ble_eq_true rfl), (Nat.le_of_ble_eq_true rfl)⟩) hP hK hD hS rfl (ci := 1) (q0 := 0) rfl rfl rfl rfl hl.1 rfl (Nat.le_of_ble_eq_true rfl) dX1_pass_233 ⟨Nat.zero_le _, Nat.zero_le _⟩ (fun H locs hP1 hS hk1 => ?_)
                        have hP : va_P (dC, dI) vwCl (mW g0 gp gr gm gl gw gn cI pv nc tr tm tp mt wv nw re nm np (0 : Int32) x5) H := hP1
                        have hD : va_D _ (mW g0 gp gr gm gl gw gn cI pv nc tr tm tp mt wv nw re nm np (0 : Int32) x5) := kD_same hD rfl
                        exact W.iret hx hb hr (fun t ht hW => ⟨by rw [fM_pass, if_neg c8, if_pos c17, if_neg c72, if_neg c124, if_neg c134, if_neg c142, if_neg c155, if_pos c164, if_neg c195, if_neg c199, if_pos c219] <;> rfl, by rw [ht, fM_pass, if_neg c8, if_pos c17, if_neg c72, if_neg c124, if_neg c134, if_neg c142, if_neg c155, if_pos c164, if_neg c195, if_neg c199, if_pos c219]; exact hP, hS.F ht⟩) hS.2.2 dX1_pass_236
                      · refine lv_iload_n hx hb dX1_pass_222 rfl (lv_at hl 2 rfl) ?_
                        refine lv_lload hx hb dX1_pass_223 (lv_at hl 5 rfl) ?_
                        refine kc_S [.int x2, .long x5] [.int 0, .ref g0] ⟨hx, hb, hml, hown, hts⟩ (cM_forcedTo l x2 x5) (cwS 2 hts gZ_pass_forcedTo rfl rfl rfl (by decide +kernel) ⟨(Nat.le_of_ble_eq_true rfl), (Nat.le_of_ble_eq_true rfl)⟩) rfl hl.1 rfl (Nat.le_of_ble_eq_true rfl) dX1_pass_225 ⟨Nat.zero_le _, Nat.zero_le _⟩ ?_
                        refine lv_goto (tgt := 233) hx hb dX1_pass_228 (by decide) ?_
                        refine kc_W [.int 0, .long (fM_forcedTo x2 x5)] [] ⟨hx, hb, hml, hown, hts⟩ (cM_kept l dC dI g0 gp gr gm gl gw gn cI pv nc tr tm tp mt wv nw re nm np kk kn (0 : Int32) (fM_forcedTo x2 x5)) (cwV 2 hts gZ_pass_kept rfl rfl rfl (by decide +kernel) ⟨(Nat.le_of_ble_eq_true rfl), (Nat.le_of_ble_eq_true rfl)⟩) hP hK hD hS rfl (ci := 1) (q0 := 0) rfl rfl rfl rfl hl.1 rfl (Nat.le_of_ble_eq_true rfl) dX1_pass_233 ⟨Nat.zero_le _, Nat.zero_le _⟩ (fun H locs hP1 hS hk1 => ?_)
                        have hP : va_P (dC, dI) vwCl (mW g0 gp gr gm gl gw gn cI pv nc tr tm tp mt wv nw re nm np (0 : Int32) (fM_forcedTo x2 x5)) H := hP1
                        have hD : va_D _ (mW g0 gp gr gm gl gw gn cI pv nc tr tm tp mt wv nw re nm np (0 : Int32) (fM_forcedTo x2 x5)) := kD_same hD rfl
                        exact W.iret hx hb hr (fun t ht hW => ⟨by rw [fM_pass, if_neg c8, if_pos c17, if_neg c72, if_neg c124, if_neg c134, if_neg c142, if_neg c155, if_pos c164, if_neg c195, if_neg c199, if_neg c219] <;> rfl, by rw [ht, fM_pass, if_neg c8, if_pos c17, if_neg c72, if_neg c124, if_neg c134, if_neg c142, if_neg c155, if_pos c164, if_neg c195, if_neg c199, if_neg c219]; exact hP, hS.F ht⟩) hS.2.2 dX1_pass_236
                    · refine lv_iload hx hb dX1_pass_202 (lv_at hl 4 rfl) ?_
                      refine lv_bipush (v := 8) hx hb dX1_pass_204 (by decide) ?_
                      refine lv_isub hx hb dX1_pass_206 ?_
                      refine lv_iload_n hx hb dX1_pass_207 rfl (lv_at hl 2 rfl) ?_
                      refine kc_S [.int (x4 - (8 : Int32)), .int x2] [] ⟨hx, hb, hml, hown, hts⟩ (cM_widens l (x4 - (8 : Int32)) x2) (cwS 2 hts gZ_pass_widens rfl rfl rfl (by decide +kernel) ⟨(Nat.le_of_ble_eq_true rfl), (Nat.le_of_ble_eq_true rfl)⟩) rfl hl.1 rfl (Nat.le_of_ble_eq_true rfl) dX1_pass_208 ⟨Nat.zero_le _, Nat.zero_le _⟩ ?_
                      refine lv_if_ne (tgt := 216) hx hb dX1_pass_211 (by decide) (fun c211 => ?_) (fun c211 => ?_)
                      · refine lv_aload_n hx hb dX1_pass_216 rfl (lv_at hl 0 rfl) ?_
                        refine lv_iconst (v := 0) hx hb dX1_pass_217 (by decide) ?_
                        refine lv_iload_n hx hb dX1_pass_218 rfl (lv_at hl 3 rfl) ?_
                        refine lv_if_eq (tgt := 231) hx hb dX1_pass_219 (by decide) (fun c219 => ?_) (fun c219 => ?_)
                        · refine lv_lload hx hb dX1_pass_231 (lv_at hl 5 rfl) ?_
                          refine kc_W [.int 0, .long x5] [] ⟨hx, hb, hml, hown, hts⟩ (cM_kept l dC dI g0 gp gr gm gl gw gn cI pv nc tr tm tp mt wv nw re nm np kk kn (0 : Int32) x5) (cwV 2 hts gZ_pass_kept rfl rfl rfl (by decide +kernel) ⟨(Nat.le_of_ble_eq_true rfl), (Nat.le_of_ble_eq_true rfl)⟩) hP hK hD hS rfl (ci := 1) (q0 := 0) rfl rfl rfl rfl hl.1 rfl (Nat.le_of_ble_eq_true rfl) dX1_pass_233 ⟨Nat.zero_le _, Nat.zero_le _⟩ (fun H locs hP1 hS hk1 => ?_)
                          have hP : va_P (dC, dI) vwCl (mW g0 gp gr gm gl gw gn cI pv nc tr tm tp mt wv nw re nm np (0 : Int32) x5) H := hP1
                          have hD : va_D _ (mW g0 gp gr gm gl gw gn cI pv nc tr tm tp mt wv nw re nm np (0 : Int32) x5) := kD_same hD rfl
                          exact W.iret hx hb hr (fun t ht hW => ⟨by rw [fM_pass, if_neg c8, if_pos c17, if_neg c72, if_neg c124, if_neg c134, if_neg c142, if_neg c155, if_pos c164, if_neg c195, if_pos c199, if_neg c211, if_pos c219] <;> rfl, by rw [ht, fM_pass, if_neg c8, if_pos c17, if_neg c72, if_neg c124, if_neg c134, if_neg c142, if_neg c155, if_pos c164, if_neg c195, if_pos c199, if_neg c211, if_pos c219]; exact hP, hS.F ht⟩) hS.2.2 dX1_pass_236
                        · refine lv_iload_n hx hb dX1_pass_222 rfl (lv_at hl 2 rfl) ?_
                          refine lv_lload hx hb dX1_pass_223 (lv_at hl 5 rfl) ?_
                          refine kc_S [.int x2, .long x5] [.int 0, .ref g0] ⟨hx, hb, hml, hown, hts⟩ (cM_forcedTo l x2 x5) (cwS 2 hts gZ_pass_forcedTo rfl rfl rfl (by decide +kernel) ⟨(Nat.le_of_ble_eq_true rfl), (Nat.le_of_ble_eq_true rfl)⟩) rfl hl.1 rfl (Nat.le_of_ble_eq_true rfl) dX1_pass_225 ⟨Nat.zero_le _, Nat.zero_le _⟩ ?_
                          refine lv_goto (tgt := 233) hx hb dX1_pass_228 (by decide) ?_
                          refine kc_W [.int 0, .long (fM_forcedTo x2 x5)] [] ⟨hx, hb, hml, hown, hts⟩ (cM_kept l dC dI g0 gp gr gm gl gw gn cI pv nc tr tm tp mt wv nw re nm np kk kn (0 : Int32) (fM_forcedTo x2 x5)) (cwV 2 hts gZ_pass_kept rfl rfl rfl (by decide +kernel) ⟨(Nat.le_of_ble_eq_true rfl), (Nat.le_of_ble_eq_true rfl)⟩) hP hK hD hS rfl (ci := 1) (q0 := 0) rfl rfl rfl rfl hl.1 rfl (Nat.le_of_ble_eq_true rfl) dX1_pass_233 ⟨Nat.zero_le _, Nat.zero_le _⟩ (fun H locs hP1 hS hk1 => ?_)
                          have hP : va_P (dC, dI) vwCl (mW g0 gp gr gm gl gw gn cI pv nc tr tm tp mt wv nw re nm np (0 : Int32) (fM_forcedTo x2 x5)) H := hP1
                          have hD : va_D _ (mW g0 gp gr gm gl gw gn cI pv nc tr tm tp mt wv nw re nm np (0 : Int32) (fM_forcedTo x2 x5)) := kD_same hD rfl
                          exact W.iret hx hb hr (fun t ht hW => ⟨by rw [fM_pass, if_neg c8, if_pos c17, if_neg c72, if_neg c124, if_neg c134, if_neg c142, if_neg c155, if_pos c164, if_neg c195, if_pos c199, if_neg c211, if_neg c219] <;> rfl, by rw [ht, fM_pass, if_neg c8, if_pos c17, if_neg c72, if_neg c124, if_neg c134, if_neg c142, if_neg c155, if_pos c164, if_neg c195, if_pos c199, if_neg c211, if_neg c219]; exact hP, hS.F ht⟩) hS.2.2 dX1_pass_236
                      · refine lv_iconst (v := 2) hx hb dX1_pass_214 (by decide) ?_
                        exact W.iret hx hb hr (fun t ht hW => ⟨by rw [fM_pass, if_neg c8, if_pos c17, if_neg c72, if_neg c124, if_neg c134, if_neg c142, if_neg c155, if_pos c164, if_neg c195, if_pos c199, if_pos c211] <;> rfl, by rw [ht, fM_pass, if_neg c8, if_pos c17, if_neg c72, if_neg c124, if_neg c134, if_neg c142, if_neg c155, if_pos c164, if_neg c195, if_pos c199, if_pos c211]; exact hP, hS.F ht⟩) hS.2.2 dX1_pass_215
                · refine lv_aload_n hx hb dX1_pass_167 rfl (lv_at hl 0 rfl) ?_
                  refine lv_iload hx hb dX1_pass_168 (lv_at hl 4 rfl) ?_
                  refine lv_iload_n hx hb dX1_pass_170 rfl (lv_at hl 2 rfl) ?_
                  refine kc_R [.int x4, .int x2] [] ⟨hx, hb, hml, hown, hts⟩ (cM_isBelow l dC dI g0 gp gr gm gl gw gn cI pv nc tr tm tp mt wv nw re nm np kk kn bl pr x4 x2 hPV hBL hnc (mO_in hnc c124) (vp_in_mono (mmay_in hnc c8).2 (by omega))) (cwV 2 hts gZ_pass_isBelow rfl rfl rfl (by decide +kernel) ⟨(Nat.le_of_ble_eq_true rfl), (Nat.le_of_ble_eq_true rfl)⟩) hP hK (ci := 1) (q0 := 0) rfl rfl rfl rfl hl.1 rfl (Nat.le_of_ble_eq_true rfl) dX1_pass_171 ⟨Nat.zero_le _, Nat.zero_le _⟩ ?_
                  refine lv_if_eq (tgt := 188) hx hb dX1_pass_174 (by decide) (fun c174 => ?_) (fun c174 => ?_)
                  · refine lv_iconst (v := 2) hx hb dX1_pass_188 (by decide) ?_
                    exact W.iret hx hb hr (fun t ht hW => ⟨by rw [fM_pass, if_neg c8, if_pos c17, if_neg c72, if_neg c124, if_neg c134, if_neg c142, if_neg c155, if_neg c164, if_pos c174] <;> rfl, by rw [ht, fM_pass, if_neg c8, if_pos c17, if_neg c72, if_neg c124, if_neg c134, if_neg c142, if_neg c155, if_neg c164, if_pos c174]; exact hP, hS.F ht⟩) hS.2.2 dX1_pass_189
                  · refine lv_aload_n hx hb dX1_pass_177 rfl (lv_at hl 0 rfl) ?_
                    refine lv_iload hx hb dX1_pass_178 (lv_at hl 4 rfl) ?_
                    refine lv_lload hx hb dX1_pass_180 (lv_at hl 5 rfl) ?_
                    refine kc_W [.int x4, .long x5] [] ⟨hx, hb, hml, hown, hts⟩ (cM_kept l dC dI g0 gp gr gm gl gw gn cI pv nc tr tm tp mt wv nw re nm np kk kn x4 x5) (cwV 2 hts gZ_pass_kept rfl rfl rfl (by decide +kernel) ⟨(Nat.le_of_ble_eq_true rfl), (Nat.le_of_ble_eq_true rfl)⟩) hP hK hD hS rfl (ci := 1) (q0 := 0) rfl rfl rfl rfl hl.1 rfl (Nat.le_of_ble_eq_true rfl) dX1_pass_182 ⟨Nat.zero_le _, Nat.zero_le _⟩ (fun H locs hP1 hS hk1 => ?_)
                    have hP : va_P (dC, dI) vwCl (mW g0 gp gr gm gl gw gn cI pv nc tr tm tp mt wv nw re nm np x4 x5) H := hP1
                    have hD : va_D _ (mW g0 gp gr gm gl gw gn cI pv nc tr tm tp mt wv nw re nm np x4 x5) := kD_same hD rfl
                    refine lv_goto (tgt := 189) hx hb dX1_pass_185 (by decide) ?_
                    exact W.iret hx hb hr (fun t ht hW => ⟨by rw [fM_pass, if_neg c8, if_pos c17, if_neg c72, if_neg c124, if_neg c134, if_neg c142, if_neg c155, if_neg c164, if_neg c174] <;> rfl, by rw [ht, fM_pass, if_neg c8, if_pos c17, if_neg c72, if_neg c124, if_neg c134, if_neg c142, if_neg c155, if_neg c164, if_neg c174]; exact hP, hS.F ht⟩) hS.2.2 dX1_pass_189
              · refine lv_iconst (v := -1) hx hb dX1_pass_158 (by decide) ?_
                exact W.iret hx hb hr (fun t ht hW => ⟨by rw [fM_pass, if_neg c8, if_pos c17, if_neg c72, if_neg c124, if_neg c134, if_neg c142, if_pos c155] <;> rfl, by rw [ht, fM_pass, if_neg c8, if_pos c17, if_neg c72, if_neg c124, if_neg c134, if_neg c142, if_pos c155]; exact hP, hS.F ht⟩) hS.2.2 dX1_pass_159
      · refine lv_iload_n hx hb dX1_pass_75 rfl (lv_at hl 2 rfl) ?_
        refine kc_S [.int x2] [] ⟨hx, hb, hml, hown, hts⟩ (cM_isReference l x2) (cwS 1 hts gZ_pass_isReference rfl rfl rfl (by decide +kernel) ⟨(Nat.le_of_ble_eq_true rfl), (Nat.le_of_ble_eq_true rfl)⟩) rfl hl.1 rfl (Nat.le_of_ble_eq_true rfl) dX1_pass_76 ⟨Nat.zero_le _, Nat.zero_le _⟩ ?_
        refine lv_if_eq (tgt := 89) hx hb dX1_pass_79 (by decide) (fun c79 => ?_) (fun c79 => ?_)
        · refine lv_iload_n hx hb dX1_pass_89 rfl (lv_at hl 3 rfl) ?_
          refine lv_if_eq (tgt := 102) hx hb dX1_pass_90 (by decide) (fun c90 => ?_) (fun c90 => ?_)
          · refine lv_iload_n hx hb dX1_pass_102 rfl (lv_at hl 1 rfl) ?_
            refine lv_iload_n hx hb dX1_pass_103 rfl (lv_at hl 2 rfl) ?_
            refine lv_icmp_ne (tgt := 116) hx hb dX1_pass_104 (by decide) (fun c104 => ?_) (fun c104 => ?_)
            · refine lv_iconst (v := 1) hx hb dX1_pass_116 (by decide) ?_
              exact W.iret hx hb hr (fun t ht hW => ⟨by rw [fM_pass, if_neg c8, if_pos c17, if_pos c72, if_pos c79, if_pos c90, if_neg c104] <;> rfl, by rw [ht, fM_pass, if_neg c8, if_pos c17, if_pos c72, if_pos c79, if_pos c90, if_neg c104]; exact hP, hS.F ht⟩) hS.2.2 dX1_pass_117
            · refine lv_aload_n hx hb dX1_pass_107 rfl (lv_at hl 0 rfl) ?_
              refine lv_iconst (v := 0) hx hb dX1_pass_108 (by decide) ?_
              refine lv_lconst (v := 0) hx hb dX1_pass_109 (by decide) ?_
              refine kc_W [.int 0, .long 0] [] ⟨hx, hb, hml, hown, hts⟩ (cM_kept l dC dI g0 gp gr gm gl gw gn cI pv nc tr tm tp mt wv nw re nm np kk kn (0 : Int32) (0 : Int64)) (cwV 2 hts gZ_pass_kept rfl rfl rfl (by decide +kernel) ⟨(Nat.le_of_ble_eq_true rfl), (Nat.le_of_ble_eq_true rfl)⟩) hP hK hD hS rfl (ci := 1) (q0 := 0) rfl rfl rfl rfl hl.1 rfl (Nat.le_of_ble_eq_true rfl) dX1_pass_110 ⟨Nat.zero_le _, Nat.zero_le _⟩ (fun H locs hP1 hS hk1 => ?_)
              have hP : va_P (dC, dI) vwCl (mW g0 gp gr gm gl gw gn cI pv nc tr tm tp mt wv nw re nm np (0 : Int32) (0 : Int64)) H := hP1
              have hD : va_D _ (mW g0 gp gr gm gl gw gn cI pv nc tr tm tp mt wv nw re nm np (0 : Int32) (0 : Int64)) := kD_same hD rfl
              refine lv_goto (tgt := 117) hx hb dX1_pass_113 (by decide) ?_
              exact W.iret hx hb hr (fun t ht hW => ⟨by rw [fM_pass, if_neg c8, if_pos c17, if_pos c72, if_pos c79, if_pos c90, if_pos c104] <;> rfl, by rw [ht, fM_pass, if_neg c8, if_pos c17, if_pos c72, if_pos c79, if_pos c90, if_pos c104]; exact hP, hS.F ht⟩) hS.2.2 dX1_pass_117
          · refine lv_aload_n hx hb dX1_pass_93 rfl (lv_at hl 0 rfl) ?_
            refine lv_iconst (v := 0) hx hb dX1_pass_94 (by decide) ?_
            refine lv_lconst (v := 0) hx hb dX1_pass_95 (by decide) ?_
            refine kc_W [.int 0, .long 0] [] ⟨hx, hb, hml, hown, hts⟩ (cM_kept l dC dI g0 gp gr gm gl gw gn cI pv nc tr tm tp mt wv nw re nm np kk kn (0 : Int32) (0 : Int64)) (cwV 2 hts gZ_pass_kept rfl rfl rfl (by decide +kernel) ⟨(Nat.le_of_ble_eq_true rfl), (Nat.le_of_ble_eq_true rfl)⟩) hP hK hD hS rfl (ci := 1) (q0 := 0) rfl rfl rfl rfl hl.1 rfl (Nat.le_of_ble_eq_true rfl) dX1_pass_96 ⟨Nat.zero_le _, Nat.zero_le _⟩ (fun H locs hP1 hS hk1 => ?_)
            have hP : va_P (dC, dI) vwCl (mW g0 gp gr gm gl gw gn cI pv nc tr tm tp mt wv nw re nm np (0 : Int32) (0 : Int64)) H := hP1
            have hD : va_D _ (mW g0 gp gr gm gl gw gn cI pv nc tr tm tp mt wv nw re nm np (0 : Int32) (0 : Int64)) := kD_same hD rfl
            refine lv_goto (tgt := 117) hx hb dX1_pass_99 (by decide) ?_
            exact W.iret hx hb hr (fun t ht hW => ⟨by rw [fM_pass, if_neg c8, if_pos c17, if_pos c72, if_pos c79, if_neg c90] <;> rfl, by rw [ht, fM_pass, if_neg c8, if_pos c17, if_pos c72, if_pos c79, if_neg c90]; exact hP, hS.F ht⟩) hS.2.2 dX1_pass_117
        · refine lv_aload_n hx hb dX1_pass_82 rfl (lv_at hl 0 rfl) ?_
          refine lv_iconst (v := 0) hx hb dX1_pass_83 (by decide) ?_
          refine lv_lconst (v := 0) hx hb dX1_pass_84 (by decide) ?_
          refine kc_W [.int 0, .long 0] [] ⟨hx, hb, hml, hown, hts⟩ (cM_kept l dC dI g0 gp gr gm gl gw gn cI pv nc tr tm tp mt wv nw re nm np kk kn (0 : Int32) (0 : Int64)) (cwV 2 hts gZ_pass_kept rfl rfl rfl (by decide +kernel) ⟨(Nat.le_of_ble_eq_true rfl), (Nat.le_of_ble_eq_true rfl)⟩) hP hK hD hS rfl (ci := 1) (q0 := 0) rfl rfl rfl rfl hl.1 rfl (Nat.le_of_ble_eq_true rfl) dX1_pass_85 ⟨Nat.zero_le _, Nat.zero_le _⟩ (fun H locs hP1 hS hk1 => ?_)
          have hP : va_P (dC, dI) vwCl (mW g0 gp gr gm gl gw gn cI pv nc tr tm tp mt wv nw re nm np (0 : Int32) (0 : Int64)) H := hP1
          have hD : va_D _ (mW g0 gp gr gm gl gw gn cI pv nc tr tm tp mt wv nw re nm np (0 : Int32) (0 : Int64)) := kD_same hD rfl
          exact W.iret hx hb hr (fun t ht hW => ⟨by rw [fM_pass, if_neg c8, if_pos c17, if_pos c72, if_neg c79] <;> rfl, by rw [ht, fM_pass, if_neg c8, if_pos c17, if_pos c72, if_neg c79]; exact hP, hS.F ht⟩) hS.2.2 dX1_pass_88
    · refine lv_iload_n hx hb dX1_pass_20 rfl (lv_at hl 1 rfl) ?_
      refine lv_lload hx hb dX1_pass_21 (lv_at hl 5 rfl) ?_
      refine kc_S [.int x1, .long x5] [] ⟨hx, hb, hml, hown, hts⟩ (cM_isNumber l x1 x5) (cwS 2 hts gZ_pass_isNumber rfl rfl rfl (by decide +kernel) ⟨(Nat.le_of_ble_eq_true rfl), (Nat.le_of_ble_eq_true rfl)⟩) rfl hl.1 rfl (Nat.le_of_ble_eq_true rfl) dX1_pass_23 ⟨Nat.zero_le _, Nat.zero_le _⟩ ?_
      refine lv_if_ne (tgt := 31) hx hb dX1_pass_26 (by decide) (fun c26 => ?_) (fun c26 => ?_)
      · refine lv_iload_n hx hb dX1_pass_31 rfl (lv_at hl 2 rfl) ?_
        refine kc_S [.int x2] [] ⟨hx, hb, hml, hown, hts⟩ (cM_isPlain l x2) (cwS 1 hts gZ_pass_isPlain rfl rfl rfl (by decide +kernel) ⟨(Nat.le_of_ble_eq_true rfl), (Nat.le_of_ble_eq_true rfl)⟩) rfl hl.1 rfl (Nat.le_of_ble_eq_true rfl) dX1_pass_32 ⟨Nat.zero_le _, Nat.zero_le _⟩ ?_
        refine lv_if_eq (tgt := 59) hx hb dX1_pass_35 (by decide) (fun c35 => ?_) (fun c35 => ?_)
        · refine lv_aload_n hx hb dX1_pass_59 rfl (lv_at hl 0 rfl) ?_
          refine lv_iload_n hx hb dX1_pass_60 rfl (lv_at hl 1 rfl) ?_
          refine lv_bipush (v := 8) hx hb dX1_pass_61 (by decide) ?_
          refine lv_iadd hx hb dX1_pass_63 ?_
          refine lv_lload hx hb dX1_pass_64 (lv_at hl 5 rfl) ?_
          refine kc_W [.int (x1 + (8 : Int32)), .long x5] [] ⟨hx, hb, hml, hown, hts⟩ (cM_kept l dC dI g0 gp gr gm gl gw gn cI pv nc tr tm tp mt wv nw re nm np kk kn (x1 + (8 : Int32)) x5) (cwV 2 hts gZ_pass_kept rfl rfl rfl (by decide +kernel) ⟨(Nat.le_of_ble_eq_true rfl), (Nat.le_of_ble_eq_true rfl)⟩) hP hK hD hS rfl (ci := 1) (q0 := 0) rfl rfl rfl rfl hl.1 rfl (Nat.le_of_ble_eq_true rfl) dX1_pass_66 ⟨Nat.zero_le _, Nat.zero_le _⟩ (fun H locs hP1 hS hk1 => ?_)
          have hP : va_P (dC, dI) vwCl (mW g0 gp gr gm gl gw gn cI pv nc tr tm tp mt wv nw re nm np (x1 + (8 : Int32)) x5) H := hP1
          have hD : va_D _ (mW g0 gp gr gm gl gw gn cI pv nc tr tm tp mt wv nw re nm np (x1 + (8 : Int32)) x5) := kD_same hD rfl
          exact W.iret hx hb hr (fun t ht hW => ⟨by rw [fM_pass, if_neg c8, if_neg c17, if_neg c26, if_pos c35] <;> rfl, by rw [ht, fM_pass, if_neg c8, if_neg c17, if_neg c26, if_pos c35]; exact hP, hS.F ht⟩) hS.2.2 dX1_pass_69
        · refine lv_aload_n hx hb dX1_pass_38 rfl (lv_at hl 0 rfl) ?_
          refine lv_iconst (v := 0) hx hb dX1_pass_39 (by decide) ?_
          refine lv_iload_n hx hb dX1_pass_40 rfl (lv_at hl 3 rfl) ?_
          refine lv_if_eq (tgt := 53) hx hb dX1_pass_41 (by decide) (fun c41 => ?_) (fun c41 => ?_)
          · refine lv_lload hx hb dX1_pass_53 (lv_at hl 5 rfl) ?_
            refine kc_W [.int 0, .long x5] [] ⟨hx, hb, hml, hown, hts⟩ (cM_kept l dC dI g0 gp gr gm gl gw gn cI pv nc tr tm tp mt wv nw re nm np kk kn (0 : Int32) x5) (cwV 2 hts gZ_pass_kept rfl rfl rfl (by decide +kernel) ⟨(Nat.le_of_ble_eq_true rfl), (Nat.le_of_ble_eq_true rfl)⟩) hP hK hD hS rfl (ci := 1) (q0 := 0) rfl rfl rfl rfl hl.1 rfl (Nat.le_of_ble_eq_true rfl) dX1_pass_55 ⟨Nat.zero_le _, Nat.zero_le _⟩ (fun H locs hP1 hS hk1 => ?_)
            have hP : va_P (dC, dI) vwCl (mW g0 gp gr gm gl gw gn cI pv nc tr tm tp mt wv nw re nm np (0 : Int32) x5) H := hP1
            have hD : va_D _ (mW g0 gp gr gm gl gw gn cI pv nc tr tm tp mt wv nw re nm np (0 : Int32) x5) := kD_same hD rfl
            exact W.iret hx hb hr (fun t ht hW => ⟨by rw [fM_pass, if_neg c8, if_neg c17, if_neg c26, if_neg c35, if_pos c41] <;> rfl, by rw [ht, fM_pass, if_neg c8, if_neg c17, if_neg c26, if_neg c35, if_pos c41]; exact hP, hS.F ht⟩) hS.2.2 dX1_pass_58
          · refine lv_iload_n hx hb dX1_pass_44 rfl (lv_at hl 2 rfl) ?_
            refine lv_lload hx hb dX1_pass_45 (lv_at hl 5 rfl) ?_
            refine kc_S [.int x2, .long x5] [.int 0, .ref g0] ⟨hx, hb, hml, hown, hts⟩ (cM_forcedTo l x2 x5) (cwS 2 hts gZ_pass_forcedTo rfl rfl rfl (by decide +kernel) ⟨(Nat.le_of_ble_eq_true rfl), (Nat.le_of_ble_eq_true rfl)⟩) rfl hl.1 rfl (Nat.le_of_ble_eq_true rfl) dX1_pass_47 ⟨Nat.zero_le _, Nat.zero_le _⟩ ?_
            refine lv_goto (tgt := 55) hx hb dX1_pass_50 (by decide) ?_
            refine kc_W [.int 0, .long (fM_forcedTo x2 x5)] [] ⟨hx, hb, hml, hown, hts⟩ (cM_kept l dC dI g0 gp gr gm gl gw gn cI pv nc tr tm tp mt wv nw re nm np kk kn (0 : Int32) (fM_forcedTo x2 x5)) (cwV 2 hts gZ_pass_kept rfl rfl rfl (by decide +kernel) ⟨(Nat.le_of_ble_eq_true rfl), (Nat.le_of_ble_eq_true rfl)⟩) hP hK hD hS rfl (ci := 1) (q0 := 0) rfl rfl rfl rfl hl.1 rfl (Nat.le_of_ble_eq_true rfl) dX1_pass_55 ⟨Nat.zero_le _, Nat.zero_le _⟩ (fun H locs hP1 hS hk1 => ?_)
            have hP : va_P (dC, dI) vwCl (mW g0 gp gr gm gl gw gn cI pv nc tr tm tp mt wv nw re nm np (0 : Int32) (fM_forcedTo x2 x5)) H := hP1
            have hD : va_D _ (mW g0 gp gr gm gl gw gn cI pv nc tr tm tp mt wv nw re nm np (0 : Int32) (fM_forcedTo x2 x5)) := kD_same hD rfl
            exact W.iret hx hb hr (fun t ht hW => ⟨by rw [fM_pass, if_neg c8, if_neg c17, if_neg c26, if_neg c35, if_neg c41] <;> rfl, by rw [ht, fM_pass, if_neg c8, if_neg c17, if_neg c26, if_neg c35, if_neg c41]; exact hP, hS.F ht⟩) hS.2.2 dX1_pass_58
      · refine lv_iconst (v := -1) hx hb dX1_pass_29 (by decide) ?_
        exact W.iret hx hb hr (fun t ht hW => ⟨by rw [fM_pass, if_neg c8, if_neg c17, if_pos c26] <;> rfl, by rw [ht, fM_pass, if_neg c8, if_neg c17, if_pos c26]; exact hP, hS.F ht⟩) hS.2.2 dX1_pass_30
  · refine lv_iconst (v := -1) hx hb dX1_pass_11 (by decide) ?_
    exact W.iret hx hb hr (fun t ht hW => ⟨by rw [fM_pass, if_pos c8] <;> rfl, by rw [ht, fM_pass, if_pos c8]; exact hP, hS.F ht⟩) hS.2.2 dX1_pass_12
def fM_put (wv : Nat → Int32) (nw : Nat) (x1 : Int32) : Bool × (Nat → Int32) × Nat := if (nI nw) = (20 : Int32) then (false, wv, nw) else (true, (upd wv (nI nw).toNatClampNeg x1), (nw + 1))
set_option maxHeartbeats 4000000 in
set_option maxRecDepth 100000 in
theorem cM_put (l : Launch) (dC : Nat → ClassId) (dI : Nat → Nat → Nat) (g0 gp gr gm gl gw gn : Nat) (cI : ClassId) (pv : Nat → Int32) (nc : Nat) (tr : Nat → Int32) (tm : Nat → Int32) (tp : Nat → Int32) (mt : Nat) (wv : Nat → Int32) (nw : Nat) (re : Int32) (nm : Nat) (np : Nat → Int32) (kk : Int32) (kn : Int64) (x1 : Int32) (hnw : nw ≤ 20) : Met l yX1_put wsZ1_put ({ frames := 0, cells := 0, slots := 0, locals := 0 }) (kPw (dC, dI) vwCl [(cI, .int)] (mW g0 gp gr gm gl gw gn cI pv nc tr tm tp mt wv nw re nm np kk kn) [.ref g0, .int x1]) (kQw (dC, dI) vwCl (some (.int (bI ((fM_put wv nw x1).1)))) (mW g0 gp gr gm gl gw gn cI pv nc tr tm tp mt ((fM_put wv nw x1).2.1) ((fM_put wv nw x1).2.2) re nm np kk kn) [g0, gp, gr, gm, gl, gw, gn]) 0 0 (fun q => q ∈ [g0, gp, gr, gm, gl, gw, gn]) := by
  refine Met.ofW (cc := cX1_put) (maxL := 2) (ret := (some .boolean)) (by decide) rfl ?_
  intro p e s m args below meth c s₁ B hml hv
  obtain ⟨rfl, hP, hK, hD0⟩ := hv
  have hx := B.exec
  have hb := B.bytes
  have hr := B.returns
  have hts := atoms_spec (ws := wsZ1_put) B.pre
  have hown : s.vm.findClass RX1 = some m.cls := findClass_of_methodNamed B.named
  have hlocks := B.notSynchronized
  have hin : ∀ w ∈ u_ws RX1 TX1 13, w ∈ wsZ1_put := fun w h => List.mem_cons_of_mem _ (inZ1 w h)
  have hD : va_D (fun q => q ∈ [g0, gp, gr, gm, gl, gw, gn]) (mW g0 gp gr gm gl gw gn cI pv nc tr tm tp mt wv nw re nm np kk kn) := kD_self hD0 rfl
  have hS : va_S (fun q => q ∈ [g0, gp, gr, gm, gl, gw, gn]) s.heap s.heap [] := va_S.rf
  have hl := lv_entry ([.ref g0, .int x1]) (n := 2) (Nat.le_of_ble_eq_true rfl)
  rw [lg_entry_eq]
  generalize (lg_sl ([.ref g0, .int x1]) ++ List.replicate (2 - (lg_sl ([.ref g0, .int x1])).length) Slot.unset).toArray = ls at hl ⊢
  have hl : lv_has ls 2 [(0, .ref g0), (1, .int x1)] := hl
  refine lv_aload_n hx hb dX1_put_0 rfl (lv_at hl 0 rfl) ?_
  refine va_get (D := (dC, dI)) (ci := 1) (v := .int (nI nw)) (C := RX1) (T := TX1) (N := 13) hx hb hts hin hown hK hP 0 rfl rfl 7 (by decide) (hts _ (List.mem_cons_of_mem _ tk_fl_96)) (fun _ h9 => h9) rfl dX1_put_1 ?_
  refine lv_bipush (v := 20) hx hb dX1_put_4 (by decide) ?_
  refine lv_icmp_ne (tgt := 11) hx hb dX1_put_6 (by decide) (fun c6 => ?_) (fun c6 => ?_)
  · refine lv_aload_n hx hb dX1_put_11 rfl (lv_at hl 0 rfl) ?_
    refine va_get (D := (dC, dI)) (ci := 1) (v := .ref gw) (C := RX1) (T := TX1) (N := 13) hx hb hts hin hown hK hP 0 rfl rfl 6 (by decide) (hts _ (List.mem_cons_of_mem _ tk_fl_22)) (fun _ h9 => h9) rfl dX1_put_12 ?_
    refine lv_aload_n hx hb dX1_put_15 rfl (lv_at hl 0 rfl) ?_
    refine va_get (D := (dC, dI)) (ci := 1) (v := .int (nI nw)) (C := RX1) (T := TX1) (N := 13) hx hb hts hin hown hK hP 0 rfl rfl 7 (by decide) (hts _ (List.mem_cons_of_mem _ tk_fl_96)) (fun _ h9 => h9) rfl dX1_put_16 ?_
    refine lv_iload_n hx hb dX1_put_19 rfl (lv_at hl 1 rfl) ?_
    refine va_iast hx hb hK hP hD hS 5 0 rfl rfl (mnw_in hnw c6) dX1_put_20 (fun H locs hP hD hS => ?_)
    have hP : va_P (dC, dI) vwCl (mW g0 gp gr gm gl gw gn cI pv nc tr tm tp mt (upd wv (nI nw).toNatClampNeg x1) nw re nm np kk kn) H := hP
    have hD : va_D _ (mW g0 gp gr gm gl gw gn cI pv nc tr tm tp mt (upd wv (nI nw).toNatClampNeg x1) nw re nm np kk kn) := hD
    refine lv_aload_n hx hb dX1_put_21 rfl (lv_at hl 0 rfl) ?_
    refine lv_dup hx hb dX1_put_22 rfl ?_
    refine va_get (D := (dC, dI)) (ci := 1) (v := .int (nI nw)) (C := RX1) (T := TX1) (N := 13) hx hb hts hin hown hK hP 0 rfl rfl 7 (by decide) (hts _ (List.mem_cons_of_mem _ tk_fl_96)) (fun _ h9 => h9) rfl dX1_put_23 ?_
    refine lv_iconst (v := 1) hx hb dX1_put_26 (by decide) ?_
    refine lv_iadd hx hb dX1_put_27 ?_
    refine kv_topi (y := nI (nw + 1)) (nI_1 nw) ?_
    refine va_put (D := (dC, dI)) (ci := 1) (v := .int (nI (nw + 1))) (ty := .int) (C := RX1) (T := TX1) (N := 13) hx hb hts hin tyX1 tyX1_ok nmX1 hown hK hP hD hS 0 rfl rfl 7 (by decide) (hts _ (List.mem_cons_of_mem _ tk_fl_96)) (fun _ h9 => h9) rfl (by decide +kernel) rfl rfl (Nat.le_of_ble_eq_true rfl) dX1_put_28 (fun H locs hP hD hS => ?_)
    have hP : va_P (dC, dI) vwCl (mW g0 gp gr gm gl gw gn cI pv nc tr tm tp mt (upd wv (nI nw).toNatClampNeg x1) (nw + 1) re nm np kk kn) H := hP
    have hD : va_D _ (mW g0 gp gr gm gl gw gn cI pv nc tr tm tp mt (upd wv (nI nw).toNatClampNeg x1) (nw + 1) re nm np kk kn) := hD
    refine lv_iconst (v := 1) hx hb dX1_put_31 (by decide) ?_
    exact W.zret hx hb hr rfl (fun t ht hW => ⟨by rw [fM_put, if_neg c6] <;> rfl, by rw [ht, fM_put, if_neg c6]; exact hP, hS.F ht⟩) hS.2.2 dX1_put_32
  · refine lv_iconst (v := 0) hx hb dX1_put_9 (by decide) ?_
    exact W.zret hx hb hr rfl (fun t ht hW => ⟨by rw [fM_put, if_pos c6] <;> rfl, by rw [ht, fM_put, if_pos c6]; exact hP, hS.F ht⟩) hS.2.2 dX1_put_10
def fM_newClass (pv : Nat → Int32) (nc : Nat) (x1 : Int32) : Int32 × (Nat → Int32) × Nat := if (nI nc) = (12 : Int32) then ((-1 : Int32), pv, nc) else if x1 = (7 : Int32) then (nI (20 + nc), (upd pv (nI nc).toNatClampNeg x1), (nc + 1)) else if x1 = (19 : Int32) then (nI (20 + nc), (upd pv (nI nc).toNatClampNeg x1), (nc + 1)) else if x1 < (20 : Int32) then ((-1 : Int32), pv, nc) else if (bI (fM_isKind nc x1)) = 0 then ((-1 : Int32), pv, nc) else (nI (20 + nc), (upd pv (nI nc).toNatClampNeg x1), (nc + 1))
set_option maxHeartbeats 4000000 in
set_option maxRecDepth 100000 in
theorem cM_newClass (l : Launch) (dC : Nat → ClassId) (dI : Nat → Nat → Nat) (g0 gp gr gm gl gw gn : Nat) (cI : ClassId) (pv : Nat → Int32) (nc : Nat) (tr : Nat → Int32) (tm : Nat → Int32) (tp : Nat → Int32) (mt : Nat) (wv : Nat → Int32) (nw : Nat) (re : Int32) (nm : Nat) (np : Nat → Int32) (kk : Int32) (kn : Int64) (x1 : Int32) (hnc : nc ≤ 12) : Met l yX1_newClass wsZ1_newClass ({ frames := 1, cells := 0, slots := 0, locals := 21 }) (kPw (dC, dI) vwCl [(cI, .int)] (mW g0 gp gr gm gl gw gn cI pv nc tr tm tp mt wv nw re nm np kk kn) [.ref g0, .int x1]) (kQw (dC, dI) vwCl (some (.int ((fM_newClass pv nc x1).1))) (mW g0 gp gr gm gl gw gn cI ((fM_newClass pv nc x1).2.1) ((fM_newClass pv nc x1).2.2) tr tm tp mt wv nw re nm np kk kn) [g0, gp, gr, gm, gl, gw, gn]) 0 0 (fun q => q ∈ [g0, gp, gr, gm, gl, gw, gn]) := by
  refine Met.ofW (cc := cX1_newClass) (maxL := 2) (ret := (some .int)) (by decide) rfl ?_
  intro p e s m args below meth c s₁ B hml hv
  obtain ⟨rfl, hP, hK, hD0⟩ := hv
  have hx := B.exec
  have hb := B.bytes
  have hr := B.returns
  have hts := atoms_spec (ws := wsZ1_newClass) B.pre
  have hown : s.vm.findClass RX1 = some m.cls := findClass_of_methodNamed B.named
  have hlocks := B.notSynchronized
  have hin : ∀ w ∈ u_ws RX1 TX1 13, w ∈ wsZ1_newClass := fun w h => List.mem_cons_of_mem _ (inZ1 w h)
  have hD : va_D (fun q => q ∈ [g0, gp, gr, gm, gl, gw, gn]) (mW g0 gp gr gm gl gw gn cI pv nc tr tm tp mt wv nw re nm np kk kn) := kD_self hD0 rfl
  have hS : va_S (fun q => q ∈ [g0, gp, gr, gm, gl, gw, gn]) s.heap s.heap [] := va_S.rf
  have hl := lv_entry ([.ref g0, .int x1]) (n := 2) (Nat.le_of_ble_eq_true rfl)
  rw [lg_entry_eq]
  generalize (lg_sl ([.ref g0, .int x1]) ++ List.replicate (2 - (lg_sl ([.ref g0, .int x1])).length) Slot.unset).toArray = ls at hl ⊢
  have hl : lv_has ls 2 [(0, .ref g0), (1, .int x1)] := hl
  refine lv_aload_n hx hb dX1_newClass_0 rfl (lv_at hl 0 rfl) ?_
  refine va_get (D := (dC, dI)) (ci := 1) (v := .int (nI nc)) (C := RX1) (T := TX1) (N := 13) hx hb hts hin hown hK hP 0 rfl rfl 1 (by decide) (hts _ (List.mem_cons_of_mem _ tk_fl_28)) (fun _ h9 => h9) rfl dX1_newClass_1 ?_
  refine lv_bipush (v := 12) hx hb dX1_newClass_4 (by decide) ?_
  refine lv_icmp_eq (tgt := 35) hx hb dX1_newClass_6 (by decide) (fun c6 => ?_) (fun c6 => ?_)
  · refine lv_iconst (v := -1) hx hb dX1_newClass_35 (by decide) ?_
    exact W.iret hx hb hr (fun t ht hW => ⟨by rw [fM_newClass, if_pos c6] <;> rfl, by rw [ht, fM_newClass, if_pos c6]; exact hP, hS.F ht⟩) hS.2.2 dX1_newClass_36
  · refine lv_iload_n hx hb dX1_newClass_9 rfl (lv_at hl 1 rfl) ?_
    refine lv_bipush (v := 7) hx hb dX1_newClass_10 (by decide) ?_
    refine lv_icmp_eq (tgt := 37) hx hb dX1_newClass_12 (by decide) (fun c12 => ?_) (fun c12 => ?_)
    · refine lv_aload_n hx hb dX1_newClass_37 rfl (lv_at hl 0 rfl) ?_
      refine va_get (D := (dC, dI)) (ci := 1) (v := .ref gp) (C := RX1) (T := TX1) (N := 13) hx hb hts hin hown hK hP 0 rfl rfl 0 (by decide) (hts _ (List.mem_cons_of_mem _ tk_fl_7)) (fun _ h9 => h9) rfl dX1_newClass_38 ?_
      refine lv_aload_n hx hb dX1_newClass_41 rfl (lv_at hl 0 rfl) ?_
      refine va_get (D := (dC, dI)) (ci := 1) (v := .int (nI nc)) (C := RX1) (T := TX1) (N := 13) hx hb hts hin hown hK hP 0 rfl rfl 1 (by decide) (hts _ (List.mem_cons_of_mem _ tk_fl_28)) (fun _ h9 => h9) rfl dX1_newClass_42 ?_
      refine lv_iload_n hx hb dX1_newClass_45 rfl (lv_at hl 1 rfl) ?_
      refine va_iast hx hb hK hP hD hS 1 0 rfl rfl (mnc_in hnc c6) dX1_newClass_46 (fun H locs hP hD hS => ?_)
      have hP : va_P (dC, dI) vwCl (mW g0 gp gr gm gl gw gn cI (upd pv (nI nc).toNatClampNeg x1) nc tr tm tp mt wv nw re nm np kk kn) H := hP
      have hD : va_D _ (mW g0 gp gr gm gl gw gn cI (upd pv (nI nc).toNatClampNeg x1) nc tr tm tp mt wv nw re nm np kk kn) := hD
      refine lv_aload_n hx hb dX1_newClass_47 rfl (lv_at hl 0 rfl) ?_
      refine lv_dup hx hb dX1_newClass_48 rfl ?_
      refine va_get (D := (dC, dI)) (ci := 1) (v := .int (nI nc)) (C := RX1) (T := TX1) (N := 13) hx hb hts hin hown hK hP 0 rfl rfl 1 (by decide) (hts _ (List.mem_cons_of_mem _ tk_fl_28)) (fun _ h9 => h9) rfl dX1_newClass_49 ?_
      refine lv_iconst (v := 1) hx hb dX1_newClass_52 (by decide) ?_
      refine lv_iadd hx hb dX1_newClass_53 ?_
      refine kv_topi (y := nI (nc + 1)) (nI_1 nc) ?_
      refine va_put (D := (dC, dI)) (ci := 1) (v := .int (nI (nc + 1))) (ty := .int) (C := RX1) (T := TX1) (N := 13) hx hb hts hin tyX1 tyX1_ok nmX1 hown hK hP hD hS 0 rfl rfl 1 (by decide) (hts _ (List.mem_cons_of_mem _ tk_fl_28)) (fun _ h9 => h9) rfl (by decide +kernel) rfl rfl (Nat.le_of_ble_eq_true rfl) dX1_newClass_54 (fun H locs hP hD hS => ?_)
      have hP : va_P (dC, dI) vwCl (mW g0 gp gr gm gl gw gn cI (upd pv (nI nc).toNatClampNeg x1) (nc + 1) tr tm tp mt wv nw re nm np kk kn) H := hP
      have hD : va_D _ (mW g0 gp gr gm gl gw gn cI (upd pv (nI nc).toNatClampNeg x1) (nc + 1) tr tm tp mt wv nw re nm np kk kn) := hD
      refine lv_bipush (v := 20) hx hb dX1_newClass_57 (by decide) ?_
      refine lv_aload_n hx hb dX1_newClass_59 rfl (lv_at hl 0 rfl) ?_
      refine va_get (D := (dC, dI)) (ci := 1) (v := .int (nI (nc + 1))) (C := RX1) (T := TX1) (N := 13) hx hb hts hin hown hK hP 0 rfl rfl 1 (by decide) (hts _ (List.mem_cons_of_mem _ tk_fl_28)) (fun _ h9 => h9) rfl dX1_newClass_60 ?_
      refine lv_iadd hx hb dX1_newClass_63 ?_
      refine lv_iconst (v := 1) hx hb dX1_newClass_64 (by decide) ?_
      refine lv_isub hx hb dX1_newClass_65 ?_
      refine kv_topi (y := nI (20 + nc)) (mnc_r nc) ?_
      exact W.iret hx hb hr (fun t ht hW => ⟨by rw [fM_newClass, if_neg c6, if_pos c12] <;> rfl, by rw [ht, fM_newClass, if_neg c6, if_pos c12]; exact hP, hS.F ht⟩) hS.2.2 dX1_newClass_66
    · refine lv_iload_n hx hb dX1_newClass_15 rfl (lv_at hl 1 rfl) ?_
      refine lv_bipush (v := 19) hx hb dX1_newClass_16 (by decide) ?_
      refine lv_icmp_eq (tgt := 37) hx hb dX1_newClass_18 (by decide) (fun c18 => ?_) (fun c18 => ?_)
      · refine lv_aload_n hx hb dX1_newClass_37 rfl (lv_at hl 0 rfl) ?_
        refine va_get (D := (dC, dI)) (ci := 1) (v := .ref gp) (C := RX1) (T := TX1) (N := 13) hx hb hts hin hown hK hP 0 rfl rfl 0 (by decide) (hts _ (List.mem_cons_of_mem _ tk_fl_7)) (fun _ h9 => h9) rfl dX1_newClass_38 ?_
        refine lv_aload_n hx hb dX1_newClass_41 rfl (lv_at hl 0 rfl) ?_
        refine va_get (D := (dC, dI)) (ci := 1) (v := .int (nI nc)) (C := RX1) (T := TX1) (N := 13) hx hb hts hin hown hK hP 0 rfl rfl 1 (by decide) (hts _ (List.mem_cons_of_mem _ tk_fl_28)) (fun _ h9 => h9) rfl dX1_newClass_42 ?_
        refine lv_iload_n hx hb dX1_newClass_45 rfl (lv_at hl 1 rfl) ?_
        refine va_iast hx hb hK hP hD hS 1 0 rfl rfl (mnc_in hnc c6) dX1_newClass_46 (fun H locs hP hD hS => ?_)
        have hP : va_P (dC, dI) vwCl (mW g0 gp gr gm gl gw gn cI (upd pv (nI nc).toNatClampNeg x1) nc tr tm tp mt wv nw re nm np kk kn) H := hP
        have hD : va_D _ (mW g0 gp gr gm gl gw gn cI (upd pv (nI nc).toNatClampNeg x1) nc tr tm tp mt wv nw re nm np kk kn) := hD
        refine lv_aload_n hx hb dX1_newClass_47 rfl (lv_at hl 0 rfl) ?_
        refine lv_dup hx hb dX1_newClass_48 rfl ?_
        refine va_get (D := (dC, dI)) (ci := 1) (v := .int (nI nc)) (C := RX1) (T := TX1) (N := 13) hx hb hts hin hown hK hP 0 rfl rfl 1 (by decide) (hts _ (List.mem_cons_of_mem _ tk_fl_28)) (fun _ h9 => h9) rfl dX1_newClass_49 ?_
        refine lv_iconst (v := 1) hx hb dX1_newClass_52 (by decide) ?_
        refine lv_iadd hx hb dX1_newClass_53 ?_
        refine kv_topi (y := nI (nc + 1)) (nI_1 nc) ?_
        refine va_put (D := (dC, dI)) (ci := 1) (v := .int (nI (nc + 1))) (ty := .int) (C := RX1) (T := TX1) (N := 13) hx hb hts hin tyX1 tyX1_ok nmX1 hown hK hP hD hS 0 rfl rfl 1 (by decide) (hts _ (List.mem_cons_of_mem _ tk_fl_28)) (fun _ h9 => h9) rfl (by decide +kernel) rfl rfl (Nat.le_of_ble_eq_true rfl) dX1_newClass_54 (fun H locs hP hD hS => ?_)
        have hP : va_P (dC, dI) vwCl (mW g0 gp gr gm gl gw gn cI (upd pv (nI nc).toNatClampNeg x1) (nc + 1) tr tm tp mt wv nw re nm np kk kn) H := hP
        have hD : va_D _ (mW g0 gp gr gm gl gw gn cI (upd pv (nI nc).toNatClampNeg x1) (nc + 1) tr tm tp mt wv nw re nm np kk kn) := hD
        refine lv_bipush (v := 20) hx hb dX1_newClass_57 (by decide) ?_
        refine lv_aload_n hx hb dX1_newClass_59 rfl (lv_at hl 0 rfl) ?_
        refine va_get (D := (dC, dI)) (ci := 1) (v := .int (nI (nc + 1))) (C := RX1) (T := TX1) (N := 13) hx hb hts hin hown hK hP 0 rfl rfl 1 (by decide) (hts _ (List.mem_cons_of_mem _ tk_fl_28)) (fun _ h9 => h9) rfl dX1_newClass_60 ?_
        refine lv_iadd hx hb dX1_newClass_63 ?_
        refine lv_iconst (v := 1) hx hb dX1_newClass_64 (by decide) ?_
        refine lv_isub hx hb dX1_newClass_65 ?_
        refine kv_topi (y := nI (20 + nc)) (mnc_r nc) ?_
        exact W.iret hx hb hr (fun t ht hW => ⟨by rw [fM_newClass, if_neg c6, if_neg c12, if_pos c18] <;> rfl, by rw [ht, fM_newClass, if_neg c6, if_neg c12, if_pos c18]; exact hP, hS.F ht⟩) hS.2.2 dX1_newClass_66
      · refine lv_iload_n hx hb dX1_newClass_21 rfl (lv_at hl 1 rfl) ?_
        refine lv_bipush (v := 20) hx hb dX1_newClass_22 (by decide) ?_
        refine lv_icmp_lt (tgt := 35) hx hb dX1_newClass_24 (by decide) (fun c24 => ?_) (fun c24 => ?_)
        · refine lv_iconst (v := -1) hx hb dX1_newClass_35 (by decide) ?_
          exact W.iret hx hb hr (fun t ht hW => ⟨by rw [fM_newClass, if_neg c6, if_neg c12, if_neg c18, if_pos c24] <;> rfl, by rw [ht, fM_newClass, if_neg c6, if_neg c12, if_neg c18, if_pos c24]; exact hP, hS.F ht⟩) hS.2.2 dX1_newClass_36
        · refine lv_aload_n hx hb dX1_newClass_27 rfl (lv_at hl 0 rfl) ?_
          refine lv_iload_n hx hb dX1_newClass_28 rfl (lv_at hl 1 rfl) ?_
          refine kc_R [.int x1] [] ⟨hx, hb, hml, hown, hts⟩ (cM_isKind l dC dI g0 gp gr gm gl gw gn cI pv nc tr tm tp mt wv nw re nm np kk kn x1) (cwV 1 hts gZ_newClass_isKind rfl rfl rfl (by decide +kernel) ⟨(Nat.le_of_ble_eq_true rfl), (Nat.le_of_ble_eq_true rfl)⟩) hP hK (ci := 1) (q0 := 0) rfl rfl rfl rfl hl.1 rfl (Nat.le_of_ble_eq_true rfl) dX1_newClass_29 ⟨Nat.zero_le _, Nat.zero_le _⟩ ?_
          refine lv_if_ne (tgt := 37) hx hb dX1_newClass_32 (by decide) (fun c32 => ?_) (fun c32 => ?_)
          · refine lv_aload_n hx hb dX1_newClass_37 rfl (lv_at hl 0 rfl) ?_
            refine va_get (D := (dC, dI)) (ci := 1) (v := .ref gp) (C := RX1) (T := TX1) (N := 13) hx hb hts hin hown hK hP 0 rfl rfl 0 (by decide) (hts _ (List.mem_cons_of_mem _ tk_fl_7)) (fun _ h9 => h9) rfl dX1_newClass_38 ?_
            refine lv_aload_n hx hb dX1_newClass_41 rfl (lv_at hl 0 rfl) ?_
            refine va_get (D := (dC, dI)) (ci := 1) (v := .int (nI nc)) (C := RX1) (T := TX1) (N := 13) hx hb hts hin hown hK hP 0 rfl rfl 1 (by decide) (hts _ (List.mem_cons_of_mem _ tk_fl_28)) (fun _ h9 => h9) rfl dX1_newClass_42 ?_
            refine lv_iload_n hx hb dX1_newClass_45 rfl (lv_at hl 1 rfl) ?_
            refine va_iast hx hb hK hP hD hS 1 0 rfl rfl (mnc_in hnc c6) dX1_newClass_46 (fun H locs hP hD hS => ?_)
            have hP : va_P (dC, dI) vwCl (mW g0 gp gr gm gl gw gn cI (upd pv (nI nc).toNatClampNeg x1) nc tr tm tp mt wv nw re nm np kk kn) H := hP
            have hD : va_D _ (mW g0 gp gr gm gl gw gn cI (upd pv (nI nc).toNatClampNeg x1) nc tr tm tp mt wv nw re nm np kk kn) := hD
            refine lv_aload_n hx hb dX1_newClass_47 rfl (lv_at hl 0 rfl) ?_
            refine lv_dup hx hb dX1_newClass_48 rfl ?_
            refine va_get (D := (dC, dI)) (ci := 1) (v := .int (nI nc)) (C := RX1) (T := TX1) (N := 13) hx hb hts hin hown hK hP 0 rfl rfl 1 (by decide) (hts _ (List.mem_cons_of_mem _ tk_fl_28)) (fun _ h9 => h9) rfl dX1_newClass_49 ?_
            refine lv_iconst (v := 1) hx hb dX1_newClass_52 (by decide) ?_
            refine lv_iadd hx hb dX1_newClass_53 ?_
            refine kv_topi (y := nI (nc + 1)) (nI_1 nc) ?_
            refine va_put (D := (dC, dI)) (ci := 1) (v := .int (nI (nc + 1))) (ty := .int) (C := RX1) (T := TX1) (N := 13) hx hb hts hin tyX1 tyX1_ok nmX1 hown hK hP hD hS 0 rfl rfl 1 (by decide) (hts _ (List.mem_cons_of_mem _ tk_fl_28)) (fun _ h9 => h9) rfl (by decide +kernel) rfl rfl (Nat.le_of_ble_eq_true rfl) dX1_newClass_54 (fun H locs hP hD hS => ?_)
            have hP : va_P (dC, dI) vwCl (mW g0 gp gr gm gl gw gn cI (upd pv (nI nc).toNatClampNeg x1) (nc + 1) tr tm tp mt wv nw re nm np kk kn) H := hP
            have hD : va_D _ (mW g0 gp gr gm gl gw gn cI (upd pv (nI nc).toNatClampNeg x1) (nc + 1) tr tm tp mt wv nw re nm np kk kn) := hD
            refine lv_bipush (v := 20) hx hb dX1_newClass_57 (by decide) ?_
            refine lv_aload_n hx hb dX1_newClass_59 rfl (lv_at hl 0 rfl) ?_
            refine va_get (D := (dC, dI)) (ci := 1) (v := .int (nI (nc + 1))) (C := RX1) (T := TX1) (N := 13) hx hb hts hin hown hK hP 0 rfl rfl 1 (by decide) (hts _ (List.mem_cons_of_mem _ tk_fl_28)) (fun _ h9 => h9) rfl dX1_newClass_60 ?_
            refine lv_iadd hx hb dX1_newClass_63 ?_
            refine lv_iconst (v := 1) hx hb dX1_newClass_64 (by decide) ?_
            refine lv_isub hx hb dX1_newClass_65 ?_
            refine kv_topi (y := nI (20 + nc)) (mnc_r nc) ?_
            exact W.iret hx hb hr (fun t ht hW => ⟨by rw [fM_newClass, if_neg c6, if_neg c12, if_neg c18, if_neg c24, if_neg c32] <;> rfl, by rw [ht, fM_newClass, if_neg c6, if_neg c12, if_neg c18, if_neg c24, if_neg c32]; exact hP, hS.F ht⟩) hS.2.2 dX1_newClass_66
          · refine lv_iconst (v := -1) hx hb dX1_newClass_35 (by decide) ?_
            exact W.iret hx hb hr (fun t ht hW => ⟨by rw [fM_newClass, if_neg c6, if_neg c12, if_neg c18, if_neg c24, if_pos c32] <;> rfl, by rw [ht, fM_newClass, if_neg c6, if_neg c12, if_neg c18, if_neg c24, if_pos c32]; exact hP, hS.F ht⟩) hS.2.2 dX1_newClass_36
def fM_typeAbout (tr : Nat → Int32) (tm : Nat → Int32) (tp : Nat → Int32) (mt : Nat) (x1 : Int32) (x2 : Int32) : Int32 := if (bI (fM_isType mt x1)) = 0 then (-1 : Int32) else if x2 = (-1 : Int32) then tr x1.toNatClampNeg else if x2 = (-2 : Int32) then tm x1.toNatClampNeg else if x2 < 0 then (-1 : Int32) else if (tm x1.toNatClampNeg) ≤ x2 then (-1 : Int32) else tp (((10 : Int32) * x1) + x2).toNatClampNeg
set_option maxHeartbeats 4000000 in
set_option maxRecDepth 100000 in
theorem cM_typeAbout (l : Launch) (dC : Nat → ClassId) (dI : Nat → Nat → Nat) (g0 gp gr gm gl gw gn : Nat) (cI : ClassId) (pv : Nat → Int32) (nc : Nat) (tr : Nat → Int32) (tm : Nat → Int32) (tp : Nat → Int32) (mt : Nat) (wv : Nat → Int32) (nw : Nat) (re : Int32) (nm : Nat) (np : Nat → Int32) (kk : Int32) (kn : Int64) (tM : Nat → Nat) (x1 : Int32) (x2 : Int32) (hmt : mt ≤ 300) (hTM : kTM tm tM mt) : Met l yX1_typeAbout wsZ1_typeAbout ({ frames := 1, cells := 0, slots := 0, locals := 21 }) (kPr (dC, dI) vwCl [(cI, .int)] (mW g0 gp gr gm gl gw gn cI pv nc tr tm tp mt wv nw re nm np kk kn) [.ref g0, .int x1, .int x2]) (k2_QcV (.int (fM_typeAbout tr tm tp mt x1 x2))) 0 0 kNo := by
  refine Met.ofW (cc := cX1_typeAbout) (maxL := 3) (ret := (some .int)) (by decide) rfl ?_
  intro p e s m args below meth c s₁ B hml hv
  obtain ⟨rfl, hP, hK⟩ := hv
  have hx := B.exec
  have hb := B.bytes
  have hr := B.returns
  have hts := atoms_spec (ws := wsZ1_typeAbout) B.pre
  have hown : s.vm.findClass RX1 = some m.cls := findClass_of_methodNamed B.named
  have hlocks := B.notSynchronized
  have hin : ∀ w ∈ u_ws RX1 TX1 13, w ∈ wsZ1_typeAbout := fun w h => List.mem_cons_of_mem _ (inZ1 w h)
  have hl := lv_entry ([.ref g0, .int x1, .int x2]) (n := 3) (Nat.le_of_ble_eq_true rfl)
  rw [lg_entry_eq]
  generalize (lg_sl ([.ref g0, .int x1, .int x2]) ++ List.replicate (3 - (lg_sl ([.ref g0, .int x1, .int x2])).length) Slot.unset).toArray = ls at hl ⊢
  have hl : lv_has ls 3 [(0, .ref g0), (1, .int x1), (2, .int x2)] := hl
  refine lv_aload_n hx hb dX1_typeAbout_0 rfl (lv_at hl 0 rfl) ?_
  refine lv_iload_n hx hb dX1_typeAbout_1 rfl (lv_at hl 1 rfl) ?_
  refine kc_R [.int x1] [] ⟨hx, hb, hml, hown, hts⟩ (cM_isType l dC dI g0 gp gr gm gl gw gn cI pv nc tr tm tp mt wv nw re nm np kk kn x1) (cwV 1 hts gZ_typeAbout_isType rfl rfl rfl (by decide +kernel) ⟨(Nat.le_of_ble_eq_true rfl), (Nat.le_of_ble_eq_true rfl)⟩) hP hK (ci := 1) (q0 := 0) rfl rfl rfl rfl hl.1 rfl (Nat.le_of_ble_eq_true rfl) dX1_typeAbout_2 ⟨Nat.zero_le _, Nat.zero_le _⟩ ?_
  refine lv_if_ne (tgt := 10) hx hb dX1_typeAbout_5 (by decide) (fun c5 => ?_) (fun c5 => ?_)
  · refine lv_iload_n hx hb dX1_typeAbout_10 rfl (lv_at hl 2 rfl) ?_
    refine lv_iconst (v := -1) hx hb dX1_typeAbout_11 (by decide) ?_
    refine lv_icmp_ne (tgt := 22) hx hb dX1_typeAbout_12 (by decide) (fun c12 => ?_) (fun c12 => ?_)
    · refine lv_iload_n hx hb dX1_typeAbout_22 rfl (lv_at hl 2 rfl) ?_
      refine lv_bipush (v := -2) hx hb dX1_typeAbout_23 (by decide) ?_
      refine lv_icmp_ne (tgt := 35) hx hb dX1_typeAbout_25 (by decide) (fun c25 => ?_) (fun c25 => ?_)
      · refine lv_iload_n hx hb dX1_typeAbout_35 rfl (lv_at hl 2 rfl) ?_
        refine lv_if_lt (tgt := 63) hx hb dX1_typeAbout_36 (by decide) (fun c36 => ?_) (fun c36 => ?_)
        · refine lv_iconst (v := -1) hx hb dX1_typeAbout_63 (by decide) ?_
          exact W.iret hx hb hr (fun t ht hW => ⟨by rw [fM_typeAbout, if_neg c5, if_neg c12, if_neg c25, if_pos c36] <;> rfl, ht⟩) (fun _ h => by cases h) dX1_typeAbout_64
        · refine lv_iload_n hx hb dX1_typeAbout_39 rfl (lv_at hl 2 rfl) ?_
          refine lv_aload_n hx hb dX1_typeAbout_40 rfl (lv_at hl 0 rfl) ?_
          refine va_get (D := (dC, dI)) (ci := 1) (v := .ref gm) (C := RX1) (T := TX1) (N := 13) hx hb hts hin hown hK hP 0 rfl rfl 3 (by decide) (hts _ (List.mem_cons_of_mem _ tk_fl_16)) (fun _ h9 => h9) rfl dX1_typeAbout_41 ?_
          refine lv_iload_n hx hb dX1_typeAbout_44 rfl (lv_at hl 1 rfl) ?_
          refine va_iald hx hb hK hP 3 0 rfl rfl (vp_in_mono (mT_in hmt c5) hmt) dX1_typeAbout_45 ?_
          refine lv_icmp_ge (tgt := 63) hx hb dX1_typeAbout_46 (by decide) (fun c46 => ?_) (fun c46 => ?_)
          · refine lv_iconst (v := -1) hx hb dX1_typeAbout_63 (by decide) ?_
            exact W.iret hx hb hr (fun t ht hW => ⟨by rw [fM_typeAbout, if_neg c5, if_neg c12, if_neg c25, if_neg c36, if_pos c46] <;> rfl, ht⟩) (fun _ h => by cases h) dX1_typeAbout_64
          · refine lv_aload_n hx hb dX1_typeAbout_49 rfl (lv_at hl 0 rfl) ?_
            refine va_get (D := (dC, dI)) (ci := 1) (v := .ref gl) (C := RX1) (T := TX1) (N := 13) hx hb hts hin hown hK hP 0 rfl rfl 4 (by decide) (hts _ (List.mem_cons_of_mem _ tk_fl_19)) (fun _ h9 => h9) rfl dX1_typeAbout_50 ?_
            refine lv_bipush (v := 10) hx hb dX1_typeAbout_53 (by decide) ?_
            refine lv_iload_n hx hb dX1_typeAbout_55 rfl (lv_at hl 1 rfl) ?_
            refine lv_imul hx hb dX1_typeAbout_56 ?_
            refine lv_iload_n hx hb dX1_typeAbout_57 rfl (lv_at hl 2 rfl) ?_
            refine lv_iadd hx hb dX1_typeAbout_58 ?_
            refine va_iald hx hb hK hP 4 0 rfl rfl (mix_in hmt hTM c5 c36 c46) dX1_typeAbout_59 ?_
            refine lv_goto (tgt := 64) hx hb dX1_typeAbout_60 (by decide) ?_
            exact W.iret hx hb hr (fun t ht hW => ⟨by rw [fM_typeAbout, if_neg c5, if_neg c12, if_neg c25, if_neg c36, if_neg c46] <;> rfl, ht⟩) (fun _ h => by cases h) dX1_typeAbout_64
      · refine lv_aload_n hx hb dX1_typeAbout_28 rfl (lv_at hl 0 rfl) ?_
        refine va_get (D := (dC, dI)) (ci := 1) (v := .ref gm) (C := RX1) (T := TX1) (N := 13) hx hb hts hin hown hK hP 0 rfl rfl 3 (by decide) (hts _ (List.mem_cons_of_mem _ tk_fl_16)) (fun _ h9 => h9) rfl dX1_typeAbout_29 ?_
        refine lv_iload_n hx hb dX1_typeAbout_32 rfl (lv_at hl 1 rfl) ?_
        refine va_iald hx hb hK hP 3 0 rfl rfl (vp_in_mono (mT_in hmt c5) hmt) dX1_typeAbout_33 ?_
        exact W.iret hx hb hr (fun t ht hW => ⟨by rw [fM_typeAbout, if_neg c5, if_neg c12, if_pos c25] <;> rfl, ht⟩) (fun _ h => by cases h) dX1_typeAbout_34
    · refine lv_aload_n hx hb dX1_typeAbout_15 rfl (lv_at hl 0 rfl) ?_
      refine va_get (D := (dC, dI)) (ci := 1) (v := .ref gr) (C := RX1) (T := TX1) (N := 13) hx hb hts hin hown hK hP 0 rfl rfl 2 (by decide) (hts _ (List.mem_cons_of_mem _ tk_fl_13)) (fun _ h9 => h9) rfl dX1_typeAbout_16 ?_
      refine lv_iload_n hx hb dX1_typeAbout_19 rfl (lv_at hl 1 rfl) ?_
      refine va_iald hx hb hK hP 2 0 rfl rfl (vp_in_mono (mT_in hmt c5) hmt) dX1_typeAbout_20 ?_
      exact W.iret hx hb hr (fun t ht hW => ⟨by rw [fM_typeAbout, if_neg c5, if_pos c12] <;> rfl, ht⟩) (fun _ h => by cases h) dX1_typeAbout_21
  · refine lv_iconst (v := -1) hx hb dX1_typeAbout_8 (by decide) ?_
    exact W.iret hx hb hr (fun t ht hW => ⟨by rw [fM_typeAbout, if_pos c5] <;> rfl, ht⟩) (fun _ h => by cases h) dX1_typeAbout_9
def fM_meet (nc : Nat) (bl : Nat → Nat → Bool) (x1 x2 : Int32) : Int32 := if (bI (fM_isKind nc x1)) = 0 then (-1 : Int32) else if (bI (fM_isKind nc x2)) = 0 then (-1 : Int32) else mup (fun c => (bl x1.toNatClampNeg c && bl x2.toNatClampNeg c) && mall (fun d => !(bl x1.toNatClampNeg d && bl x2.toNatClampNeg d) || bl c d) (20 + nc)) (20 + nc) 0
set_option maxHeartbeats 4000000 in
set_option maxRecDepth 100000 in
theorem cM_meet (l : Launch) (dC : Nat → ClassId) (dI : Nat → Nat → Nat) (g0 gp gr gm gl gw gn : Nat) (cI : ClassId) (pv : Nat → Int32) (nc : Nat) (tr : Nat → Int32) (tm : Nat → Int32) (tp : Nat → Int32) (mt : Nat) (wv : Nat → Int32) (nw : Nat) (re : Int32) (nm : Nat) (np : Nat → Int32) (kk : Int32) (kn : Int64) (bl : Nat → Nat → Bool) (pr : Nat → Nat) (x1 : Int32) (x2 : Int32) (hPV : kPV pv pr nc) (hBL : kBL bl pr nc) (hnc : nc ≤ 12) : Met l yX1_meet wsZ1_meet ({ frames := 2, cells := 0, slots := 0, locals := 43 }) (kPr (dC, dI) vwCl [(cI, .int)] (mW g0 gp gr gm gl gw gn cI pv nc tr tm tp mt wv nw re nm np kk kn) [.ref g0, .int x1, .int x2]) (k2_QcV (.int (fM_meet nc bl x1 x2))) 0 0 kNo := by
  refine Met.ofW (cc := cX1_meet) (maxL := 6) (ret := (some .int)) (by decide) rfl ?_
  intro p e s m args below meth c s₁ B hml hv
  obtain ⟨rfl, hP, hK⟩ := hv
  have hx := B.exec
  have hb := B.bytes
  have hr := B.returns
  have hts := atoms_spec (ws := wsZ1_meet) B.pre
  have hown : s.vm.findClass RX1 = some m.cls := findClass_of_methodNamed B.named
  have hlocks := B.notSynchronized
  have hin : ∀ w ∈ u_ws RX1 TX1 13, w ∈ wsZ1_meet := fun w h => List.mem_cons_of_mem _ (inZ1 w h)
  have hl := lv_entry ([.ref g0, .int x1, .int x2]) (n := 6) (Nat.le_of_ble_eq_true rfl)
  rw [lg_entry_eq]
  generalize (lg_sl ([.ref g0, .int x1, .int x2]) ++ List.replicate (6 - (lg_sl ([.ref g0, .int x1, .int x2])).length) Slot.unset).toArray = ls at hl ⊢
  have hl : lv_has ls 6 [(0, .ref g0), (1, .int x1), (2, .int x2)] := hl
  refine lv_aload_n hx hb dX1_meet_0 rfl (lv_at hl 0 rfl) ?_
  refine lv_iload_n hx hb dX1_meet_1 rfl (lv_at hl 1 rfl) ?_
  refine kc_R [.int x1] [] ⟨hx, hb, hml, hown, hts⟩ (cM_isKind l dC dI g0 gp gr gm gl gw gn cI pv nc tr tm tp mt wv nw re nm np kk kn x1) (cwV 1 hts gZ_meet_isKind rfl rfl rfl (by decide +kernel) ⟨(Nat.le_of_ble_eq_true rfl), (Nat.le_of_ble_eq_true rfl)⟩) hP hK (ci := 1) (q0 := 0) rfl rfl rfl rfl hl.1 rfl (Nat.le_of_ble_eq_true rfl) dX1_meet_2 ⟨Nat.zero_le _, Nat.zero_le _⟩ ?_
  refine lv_if_eq (tgt := 16) hx hb dX1_meet_5 (by decide) (fun c5 => ?_) (fun c5 => ?_)
  · refine lv_iconst (v := -1) hx hb dX1_meet_16 (by decide) ?_
    exact W.iret hx hb hr (fun t ht hW => ⟨by rw [fM_meet, if_pos c5] <;> rfl, ht⟩) (fun _ h => by cases h) dX1_meet_17
  · refine lv_aload_n hx hb dX1_meet_8 rfl (lv_at hl 0 rfl) ?_
    refine lv_iload_n hx hb dX1_meet_9 rfl (lv_at hl 2 rfl) ?_
    refine kc_R [.int x2] [] ⟨hx, hb, hml, hown, hts⟩ (cM_isKind l dC dI g0 gp gr gm gl gw gn cI pv nc tr tm tp mt wv nw re nm np kk kn x2) (cwV 1 hts gZ_meet_isKind rfl rfl rfl (by decide +kernel) ⟨(Nat.le_of_ble_eq_true rfl), (Nat.le_of_ble_eq_true rfl)⟩) hP hK (ci := 1) (q0 := 0) rfl rfl rfl rfl hl.1 rfl (Nat.le_of_ble_eq_true rfl) dX1_meet_10 ⟨Nat.zero_le _, Nat.zero_le _⟩ ?_
    refine lv_if_ne (tgt := 18) hx hb dX1_meet_13 (by decide) (fun c13 => ?_) (fun c13 => ?_)
    · obtain ⟨i, hi, rfl⟩ := vp_in_of (mK_in hnc c5) (by omega)
      obtain ⟨j, hj, rfl⟩ := vp_in_of (mK_in hnc c13) (by omega)
      refine lv_iconst (v := 0) hx hb dX1_meet_18 (by decide) ?_
      refine lv_istore_n (lv' := [(3, .int 0), (0, .ref g0), (1, .int (nI i)), (2, .int (nI j))]) hx hb dX1_meet_19 rfl hl (by decide) rfl (fun ls hl => ?_)
      have hfn : fM_meet nc bl (nI i) (nI j) = mup (fun c => (bl i c && bl j c) && mall (fun d => !(bl i d && bl j d) || bl c d) (20 + nc)) (20 + nc) 0 := by rw [fM_meet, if_neg c5, if_neg c13, nI_clamp (by omega), nI_clamp (by omega)]
      suffices oloop : ∀ (n q : Nat), q + n = 20 + nc → mup (fun c => (bl i c && bl j c) && mall (fun d => !(bl i d && bl j d) || bl c d) (20 + nc)) n q = mup (fun c => (bl i c && bl j c) && mall (fun d => !(bl i d && bl j d) || bl c d) (20 + nc)) (20 + nc) 0 → ∀ (ls : Array Slot), lv_has ls 6 [(3, .int (nI q)), (0, .ref g0), (1, .int (nI i)), (2, .int (nI j))] → W p l e (headSpec wsZ1_meet ({ frames := 2, cells := 0, slots := 0, locals := 43 })).room s m ([.ref g0, .int (nI i), .int (nI j)] : List Value).toArray below meth c s.heap [] 0 0 (MQ below (k2_QcV (.int (fM_meet nc bl (nI i) (nI j)))) ([.ref g0, .int (nI i), .int (nI j)] : List Value).toArray s 0 0 kNo) (F0 m 20 ls []) by
        exact oloop (20 + nc) 0 (by omega) rfl ls (lv_sub hl [0, 1, 2, 3] rfl)
      intro n
      induction n with
      | zero =>
        intro q hq he ls hl
        refine lv_iload_n hx hb dX1_meet_20 rfl (lv_at hl 0 rfl) ?_
        refine lv_bipush (v := 20) hx hb dX1_meet_21 (by decide) ?_
        refine lv_aload_n hx hb dX1_meet_23 rfl (lv_at hl 1 rfl) ?_
        refine va_get (D := (dC, dI)) (ci := 1) (v := .int (nI nc)) (C := RX1) (T := TX1) (N := 13) hx hb hts hin hown hK hP 0 rfl rfl 1 (by decide) (hts _ (List.mem_cons_of_mem _ tk_fl_28)) (fun _ h9 => h9) rfl dX1_meet_24 ?_
        refine lv_iadd hx hb dX1_meet_27 ?_
        refine kv_topi (y := nI (20 + nc)) (nI_add 20 nc) ?_
        refine lv_icmp_ge (tgt := 131) hx hb dX1_meet_28 (by decide) (fun c28 => ?_) (fun c28 => ?_)
        · refine lv_iconst (v := -1) hx hb dX1_meet_131 (by decide) ?_
          exact W.iret hx hb hr (fun t ht hW => ⟨by rw [hfn, ← he] <;> rfl, ht⟩) (fun _ h => by cases h) dX1_meet_132
        · exact absurd (nI_le (by omega) (by omega)) c28
      | succ n iho =>
        intro q hq he ls hl
        refine lv_iload_n hx hb dX1_meet_20 rfl (lv_at hl 0 rfl) ?_
        refine lv_bipush (v := 20) hx hb dX1_meet_21 (by decide) ?_
        refine lv_aload_n hx hb dX1_meet_23 rfl (lv_at hl 1 rfl) ?_
        refine va_get (D := (dC, dI)) (ci := 1) (v := .int (nI nc)) (C := RX1) (T := TX1) (N := 13) hx hb hts hin hown hK hP 0 rfl rfl 1 (by decide) (hts _ (List.mem_cons_of_mem _ tk_fl_28)) (fun _ h9 => h9) rfl dX1_meet_24 ?_
        refine lv_iadd hx hb dX1_meet_27 ?_
        refine kv_topi (y := nI (20 + nc)) (nI_add 20 nc) ?_
        refine lv_icmp_ge (tgt := 131) hx hb dX1_meet_28 (by decide) (fun c28 => ?_) (fun c28 => ?_)
        · exact absurd ((nI_leI (by omega) (by omega)).mp c28) (by omega)
        · refine lv_aload_n hx hb dX1_meet_31 rfl (lv_at hl 1 rfl) ?_
          refine lv_iload_n hx hb dX1_meet_32 rfl (lv_at hl 2 rfl) ?_
          refine lv_iload_n hx hb dX1_meet_33 rfl (lv_at hl 0 rfl) ?_
          refine kc_R [.int (nI i), .int (nI q)] [] ⟨hx, hb, hml, hown, hts⟩ (cM_isBelow l dC dI g0 gp gr gm gl gw gn cI pv nc tr tm tp mt wv nw re nm np kk kn bl pr (nI i) (nI q) hPV hBL hnc (vp_in_nI (by omega) (by omega)) (vp_in_nI (by omega) (by decide))) (cwV 2 hts gZ_meet_isBelow rfl rfl rfl (by decide +kernel) ⟨(Nat.le_of_ble_eq_true rfl), (Nat.le_of_ble_eq_true rfl)⟩) hP hK (ci := 1) (q0 := 0) rfl rfl rfl rfl hl.1 rfl (Nat.le_of_ble_eq_true rfl) dX1_meet_34 ⟨Nat.zero_le _, Nat.zero_le _⟩ ?_
          refine kv_topi (y := bI (bl i q)) (by rw [blI_nI bl (by omega) (by omega)]) ?_
          refine lv_if_eq (tgt := 125) hx hb dX1_meet_37 (by decide) (fun c37 => ?_) (fun c37 => ?_)
          · refine lv_iinc (v := nI (q + 1)) (lv' := [(3, .int (nI (q + 1))), (0, .ref g0), (1, .int (nI i)), (2, .int (nI j))]) hx hb dX1_meet_125 hl (k := 0) rfl (nI_1 q) (by decide) rfl (fun ls hl => ?_)
            refine lv_goto (tgt := 20) hx hb dX1_meet_128 (by decide) ?_
            exact iho (q + 1) (by omega) (by rw [← he, mup, if_neg (by simp [bI_e0 c37])]) ls (lv_sub hl [0, 1, 2, 3] rfl)
          · refine lv_aload_n hx hb dX1_meet_40 rfl (lv_at hl 1 rfl) ?_
            refine lv_iload_n hx hb dX1_meet_41 rfl (lv_at hl 3 rfl) ?_
            refine lv_iload_n hx hb dX1_meet_42 rfl (lv_at hl 0 rfl) ?_
            refine kc_R [.int (nI j), .int (nI q)] [] ⟨hx, hb, hml, hown, hts⟩ (cM_isBelow l dC dI g0 gp gr gm gl gw gn cI pv nc tr tm tp mt wv nw re nm np kk kn bl pr (nI j) (nI q) hPV hBL hnc (vp_in_nI (by omega) (by omega)) (vp_in_nI (by omega) (by decide))) (cwV 2 hts gZ_meet_isBelow rfl rfl rfl (by decide +kernel) ⟨(Nat.le_of_ble_eq_true rfl), (Nat.le_of_ble_eq_true rfl)⟩) hP hK (ci := 1) (q0 := 0) rfl rfl rfl rfl hl.1 rfl (Nat.le_of_ble_eq_true rfl) dX1_meet_43 ⟨Nat.zero_le _, Nat.zero_le _⟩ ?_
            refine kv_topi (y := bI (bl j q)) (by rw [blI_nI bl (by omega) (by omega)]) ?_
            refine lv_if_ne (tgt := 52) hx hb dX1_meet_46 (by decide) (fun c46 => ?_) (fun c46 => ?_)
            · refine lv_iconst (v := 1) hx hb dX1_meet_52 (by decide) ?_
              refine lv_istore (lv' := [(4, .int 1), (3, .int (nI q)), (0, .ref g0), (1, .int (nI i)), (2, .int (nI j))]) hx hb dX1_meet_53 hl (by decide) rfl (fun ls hl => ?_)
              refine lv_iconst (v := 0) hx hb dX1_meet_55 (by decide) ?_
              refine lv_istore (lv' := [(5, .int 0), (4, .int 1), (3, .int (nI q)), (0, .ref g0), (1, .int (nI i)), (2, .int (nI j))]) hx hb dX1_meet_56 hl (by decide) rfl (fun ls hl => ?_)
              suffices iloop : ∀ (n2 d : Nat) (b : Bool), d + n2 = 20 + nc → b = mall (fun d => !(bl i d && bl j d) || bl q d) d → ∀ (ls : Array Slot), lv_has ls 6 [(5, .int (nI d)), (4, .int (bI b)), (3, .int (nI q)), (0, .ref g0), (1, .int (nI i)), (2, .int (nI j))] → W p l e (headSpec wsZ1_meet ({ frames := 2, cells := 0, slots := 0, locals := 43 })).room s m ([.ref g0, .int (nI i), .int (nI j)] : List Value).toArray below meth c s.heap [] 0 0 (MQ below (k2_QcV (.int (fM_meet nc bl (nI i) (nI j)))) ([.ref g0, .int (nI i), .int (nI j)] : List Value).toArray s 0 0 kNo) (F0 m 58 ls []) by
                exact iloop (20 + nc) 0 true (by omega) rfl ls (lv_sub hl [0, 1, 2, 3, 4, 5] rfl)
              intro n2
              induction n2 with
              | zero =>
                intro d b hd hfb ls hl
                obtain rfl : d = 20 + nc := by omega
                refine lv_iload hx hb dX1_meet_58 (lv_at hl 0 rfl) ?_
                refine lv_bipush (v := 20) hx hb dX1_meet_60 (by decide) ?_
                refine lv_aload_n hx hb dX1_meet_62 rfl (lv_at hl 3 rfl) ?_
                refine va_get (D := (dC, dI)) (ci := 1) (v := .int (nI nc)) (C := RX1) (T := TX1) (N := 13) hx hb hts hin hown hK hP 0 rfl rfl 1 (by decide) (hts _ (List.mem_cons_of_mem _ tk_fl_28)) (fun _ h9 => h9) rfl dX1_meet_63 ?_
                refine lv_iadd hx hb dX1_meet_66 ?_
                refine kv_topi (y := nI (20 + nc)) (nI_add 20 nc) ?_
                refine lv_icmp_ge (tgt := 118) hx hb dX1_meet_67 (by decide) (fun c67 => ?_) (fun c67 => ?_)
                · refine lv_iload hx hb dX1_meet_118 (lv_at hl 1 rfl) ?_
                  refine lv_if_eq (tgt := 125) hx hb dX1_meet_120 (by decide) (fun c120 => ?_) (fun c120 => ?_)
                  · refine lv_iinc (v := nI (q + 1)) (lv' := [(3, .int (nI (q + 1))), (5, .int (nI (20 + nc))), (4, .int (bI b)), (0, .ref g0), (1, .int (nI i)), (2, .int (nI j))]) hx hb dX1_meet_125 hl (k := 2) rfl (nI_1 q) (by decide) rfl (fun ls hl => ?_)
                    refine lv_goto (tgt := 20) hx hb dX1_meet_128 (by decide) ?_
                    exact iho (q + 1) (by omega) (by rw [← he, mup, if_neg (by rw [← hfb, bI_e0 c120]; simp)]) ls (lv_sub hl [0, 3, 4, 5] rfl)
                  · refine lv_iload_n hx hb dX1_meet_123 rfl (lv_at hl 2 rfl) ?_
                    exact W.iret hx hb hr (fun t ht hW => ⟨by rw [hfn, ← he, mup, if_pos (by rw [← hfb, bI_n0 c37, bI_n0 c46, bI_n0 c120] <;> rfl)] <;> rfl, ht⟩) (fun _ h => by cases h) dX1_meet_124
                · exact absurd (nI_le (Nat.le_refl _) (by omega)) c67
              | succ n2 ih =>
                intro d b hd hfb ls hl
                refine lv_iload hx hb dX1_meet_58 (lv_at hl 0 rfl) ?_
                refine lv_bipush (v := 20) hx hb dX1_meet_60 (by decide) ?_
                refine lv_aload_n hx hb dX1_meet_62 rfl (lv_at hl 3 rfl) ?_
                refine va_get (D := (dC, dI)) (ci := 1) (v := .int (nI nc)) (C := RX1) (T := TX1) (N := 13) hx hb hts hin hown hK hP 0 rfl rfl 1 (by decide) (hts _ (List.mem_cons_of_mem _ tk_fl_28)) (fun _ h9 => h9) rfl dX1_meet_63 ?_
                refine lv_iadd hx hb dX1_meet_66 ?_
                refine kv_topi (y := nI (20 + nc)) (nI_add 20 nc) ?_
                refine lv_icmp_ge (tgt := 118) hx hb dX1_meet_67 (by decide) (fun c67 => ?_) (fun c67 => ?_)
                · exact absurd ((nI_leI (by omega) (by omega)).mp c67) (by omega)
                · refine lv_iload hx hb dX1_meet_70 (lv_at hl 1 rfl) ?_
                  refine lv_if_eq (tgt := 118) hx hb dX1_meet_72 (by decide) (fun c72 => ?_) (fun c72 => ?_)
                  · refine lv_iload hx hb dX1_meet_118 (lv_at hl 1 rfl) ?_
                    refine lv_if_eq (tgt := 125) hx hb dX1_meet_120 (by decide) (fun c120 => ?_) (fun c120 => ?_)
                    · refine lv_iinc (v := nI (q + 1)) (lv' := [(3, .int (nI (q + 1))), (5, .int (nI d)), (4, .int (bI b)), (0, .ref g0), (1, .int (nI i)), (2, .int (nI j))]) hx hb dX1_meet_125 hl (k := 2) rfl (nI_1 q) (by decide) rfl (fun ls hl => ?_)
                      refine lv_goto (tgt := 20) hx hb dX1_meet_128 (by decide) ?_
                      exact iho (q + 1) (by omega) (by rw [← he, mup, if_neg (by rw [mall_mono (d := d) (by omega) (by rw [← hfb, bI_e0 c72])]; simp)]) ls (lv_sub hl [0, 3, 4, 5] rfl)
                    · exact absurd c72 c120
                  · refine lv_aload_n hx hb dX1_meet_75 rfl (lv_at hl 3 rfl) ?_
                    refine lv_iload_n hx hb dX1_meet_76 rfl (lv_at hl 4 rfl) ?_
                    refine lv_iload hx hb dX1_meet_77 (lv_at hl 0 rfl) ?_
                    refine kc_R [.int (nI i), .int (nI d)] [] ⟨hx, hb, hml, hown, hts⟩ (cM_isBelow l dC dI g0 gp gr gm gl gw gn cI pv nc tr tm tp mt wv nw re nm np kk kn bl pr (nI i) (nI d) hPV hBL hnc (vp_in_nI (by omega) (by omega)) (vp_in_nI (by omega) (by decide))) (cwV 2 hts gZ_meet_isBelow rfl rfl rfl (by decide +kernel) ⟨(Nat.le_of_ble_eq_true rfl), (Nat.le_of_ble_eq_true rfl)⟩) hP hK (ci := 1) (q0 := 0) rfl rfl rfl rfl hl.1 rfl (Nat.le_of_ble_eq_true rfl) dX1_meet_79 ⟨Nat.zero_le _, Nat.zero_le _⟩ ?_
                    refine kv_topi (y := bI (bl i d)) (by rw [blI_nI bl (by omega) (by omega)]) ?_
                    refine lv_if_eq (tgt := 105) hx hb dX1_meet_82 (by decide) (fun c82 => ?_) (fun c82 => ?_)
                    · refine lv_iconst (v := 1) hx hb dX1_meet_105 (by decide) ?_
                      refine lv_goto (tgt := 110) hx hb dX1_meet_106 (by decide) ?_
                      refine lv_istore (lv' := [(4, .int 1), (5, .int (nI d)), (3, .int (nI q)), (0, .ref g0), (1, .int (nI i)), (2, .int (nI j))]) hx hb dX1_meet_110 hl (by decide) rfl (fun ls hl => ?_)
                      refine lv_iinc (v := nI (d + 1)) (lv' := [(5, .int (nI (d + 1))), (4, .int 1), (3, .int (nI q)), (0, .ref g0), (1, .int (nI i)), (2, .int (nI j))]) hx hb dX1_meet_112 hl (k := 1) rfl (nI_1 d) (by decide) rfl (fun ls hl => ?_)
                      refine lv_goto (tgt := 58) hx hb dX1_meet_115 (by decide) ?_
                      exact ih (d + 1) true (by omega) (by rw [mall, ← hfb, bI_n0 c72, bI_e0 c82] <;> rfl) ls (lv_sub hl [0, 1, 2, 3, 4, 5] rfl)
                    · refine lv_aload_n hx hb dX1_meet_85 rfl (lv_at hl 3 rfl) ?_
                      refine lv_iload_n hx hb dX1_meet_86 rfl (lv_at hl 5 rfl) ?_
                      refine lv_iload hx hb dX1_meet_87 (lv_at hl 0 rfl) ?_
                      refine kc_R [.int (nI j), .int (nI d)] [] ⟨hx, hb, hml, hown, hts⟩ (cM_isBelow l dC dI g0 gp gr gm gl gw gn cI pv nc tr tm tp mt wv nw re nm np kk kn bl pr (nI j) (nI d) hPV hBL hnc (vp_in_nI (by omega) (by omega)) (vp_in_nI (by omega) (by decide))) (cwV 2 hts gZ_meet_isBelow rfl rfl rfl (by decide +kernel) ⟨(Nat.le_of_ble_eq_true rfl), (Nat.le_of_ble_eq_true rfl)⟩) hP hK (ci := 1) (q0 := 0) rfl rfl rfl rfl hl.1 rfl (Nat.le_of_ble_eq_true rfl) dX1_meet_89 ⟨Nat.zero_le _, Nat.zero_le _⟩ ?_
                      refine kv_topi (y := bI (bl j d)) (by rw [blI_nI bl (by omega) (by omega)]) ?_
                      refine lv_if_eq (tgt := 105) hx hb dX1_meet_92 (by decide) (fun c92 => ?_) (fun c92 => ?_)
                      · refine lv_iconst (v := 1) hx hb dX1_meet_105 (by decide) ?_
                        refine lv_goto (tgt := 110) hx hb dX1_meet_106 (by decide) ?_
                        refine lv_istore (lv' := [(4, .int 1), (5, .int (nI d)), (3, .int (nI q)), (0, .ref g0), (1, .int (nI i)), (2, .int (nI j))]) hx hb dX1_meet_110 hl (by decide) rfl (fun ls hl => ?_)
                        refine lv_iinc (v := nI (d + 1)) (lv' := [(5, .int (nI (d + 1))), (4, .int 1), (3, .int (nI q)), (0, .ref g0), (1, .int (nI i)), (2, .int (nI j))]) hx hb dX1_meet_112 hl (k := 1) rfl (nI_1 d) (by decide) rfl (fun ls hl => ?_)
                        refine lv_goto (tgt := 58) hx hb dX1_meet_115 (by decide) ?_
                        exact ih (d + 1) true (by omega) (by rw [mall, ← hfb, bI_n0 c72, bI_n0 c82, bI_e0 c92] <;> rfl) ls (lv_sub hl [0, 1, 2, 3, 4, 5] rfl)
                      · refine lv_aload_n hx hb dX1_meet_95 rfl (lv_at hl 3 rfl) ?_
                        refine lv_iload_n hx hb dX1_meet_96 rfl (lv_at hl 2 rfl) ?_
                        refine lv_iload hx hb dX1_meet_97 (lv_at hl 0 rfl) ?_
                        refine kc_R [.int (nI q), .int (nI d)] [] ⟨hx, hb, hml, hown, hts⟩ (cM_isBelow l dC dI g0 gp gr gm gl gw gn cI pv nc tr tm tp mt wv nw re nm np kk kn bl pr (nI q) (nI d) hPV hBL hnc (vp_in_nI (by omega) (by omega)) (vp_in_nI (by omega) (by decide))) (cwV 2 hts gZ_meet_isBelow rfl rfl rfl (by decide +kernel) ⟨(Nat.le_of_ble_eq_true rfl), (Nat.le_of_ble_eq_true rfl)⟩) hP hK (ci := 1) (q0 := 0) rfl rfl rfl rfl hl.1 rfl (Nat.le_of_ble_eq_true rfl) dX1_meet_99 ⟨Nat.zero_le _, Nat.zero_le _⟩ ?_
                        refine kv_topi (y := bI (bl q d)) (by rw [blI_nI bl (by omega) (by omega)]) ?_
                        refine lv_if_eq (tgt := 109) hx hb dX1_meet_102 (by decide) (fun c102 => ?_) (fun c102 => ?_)
                        · refine lv_iconst (v := 0) hx hb dX1_meet_109 (by decide) ?_
                          refine lv_istore (lv' := [(4, .int 0), (5, .int (nI d)), (3, .int (nI q)), (0, .ref g0), (1, .int (nI i)), (2, .int (nI j))]) hx hb dX1_meet_110 hl (by decide) rfl (fun ls hl => ?_)
                          refine lv_iinc (v := nI (d + 1)) (lv' := [(5, .int (nI (d + 1))), (4, .int 0), (3, .int (nI q)), (0, .ref g0), (1, .int (nI i)), (2, .int (nI j))]) hx hb dX1_meet_112 hl (k := 1) rfl (nI_1 d) (by decide) rfl (fun ls hl => ?_)
                          refine lv_goto (tgt := 58) hx hb dX1_meet_115 (by decide) ?_
                          exact ih (d + 1) false (by omega) (by rw [mall, ← hfb, bI_n0 c72, bI_n0 c82, bI_n0 c92, bI_e0 c102] <;> rfl) ls (lv_sub hl [0, 1, 2, 3, 4, 5] rfl)
                        · refine lv_iconst (v := 1) hx hb dX1_meet_105 (by decide) ?_
                          refine lv_goto (tgt := 110) hx hb dX1_meet_106 (by decide) ?_
                          refine lv_istore (lv' := [(4, .int 1), (5, .int (nI d)), (3, .int (nI q)), (0, .ref g0), (1, .int (nI i)), (2, .int (nI j))]) hx hb dX1_meet_110 hl (by decide) rfl (fun ls hl => ?_)
                          refine lv_iinc (v := nI (d + 1)) (lv' := [(5, .int (nI (d + 1))), (4, .int 1), (3, .int (nI q)), (0, .ref g0), (1, .int (nI i)), (2, .int (nI j))]) hx hb dX1_meet_112 hl (k := 1) rfl (nI_1 d) (by decide) rfl (fun ls hl => ?_)
                          refine lv_goto (tgt := 58) hx hb dX1_meet_115 (by decide) ?_
                          exact ih (d + 1) true (by omega) (by rw [mall, ← hfb, bI_n0 c72, bI_n0 c82, bI_n0 c92, bI_n0 c102] <;> rfl) ls (lv_sub hl [0, 1, 2, 3, 4, 5] rfl)
            · refine lv_goto (tgt := 125) hx hb dX1_meet_49 (by decide) ?_
              refine lv_iinc (v := nI (q + 1)) (lv' := [(3, .int (nI (q + 1))), (0, .ref g0), (1, .int (nI i)), (2, .int (nI j))]) hx hb dX1_meet_125 hl (k := 0) rfl (nI_1 q) (by decide) rfl (fun ls hl => ?_)
              refine lv_goto (tgt := 20) hx hb dX1_meet_128 (by decide) ?_
              exact iho (q + 1) (by omega) (by rw [← he, mup, if_neg (by simp [bI_e0 c46])]) ls (lv_sub hl [0, 1, 2, 3] rfl)
    · refine lv_iconst (v := -1) hx hb dX1_meet_16 (by decide) ?_
      exact W.iret hx hb hr (fun t ht hW => ⟨by rw [fM_meet, if_neg c5, if_pos c13] <;> rfl, ht⟩) (fun _ h => by cases h) dX1_meet_17
