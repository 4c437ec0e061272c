set_option maxHeartbeats 4000000 in
set_option maxRecDepth 100000 in
theorem cM_type (l : Launch) (dC : Nat → ClassId) (dI : Nat → Nat → Nat) (g0 gp gr gm gl gw gn : Nat) (cI : ClassId) (pv : Nat → Int32) (nc : Nat) (tr : Nat → Int32) (tm : Nat → Int32) (tp : Nat → Int32) (mt : Nat) (wv : Nat → Int32) (nw : Nat) (re : Int32) (nm : Nat) (np : Nat → Int32) (kk : Int32) (kn : Int64) (x1 : Int32) (hmt : mt ≤ 300) (hnw : nw ≤ 20) : Met l yX1_type wsZ1_type ({ frames := 2, cells := 0, slots := 0, locals := 47 }) (kPw (dC, dI) vwCl [(cI, .int)] (mW g0 gp gr gm gl gw gn cI pv nc tr tm tp mt wv nw re nm np kk kn) [.ref g0, .int x1]) (kQw (dC, dI) vwCl (some (.int (if fM_typeOK nc wv nw x1 = true then (if nw ≤ 10 then nbR (fnd (fQ tr tm tp (npC np wv nw) x1 nw) mt 0) mt else (-1 : Int32)) else (-1 : Int32)))) (mW g0 gp gr gm gl gw gn cI pv nc (if fM_typeOK nc wv nw x1 = true then (if nw ≤ 10 then nbV (fnd (fQ tr tm tp (npC np wv nw) x1 nw) mt 0) mt tr (upd tr mt x1) else tr) else tr) (if fM_typeOK nc wv nw x1 = true then (if nw ≤ 10 then nbV (fnd (fQ tr tm tp (npC np wv nw) x1 nw) mt 0) mt tm (upd tm mt (nI nw)) else tm) else tm) (if fM_typeOK nc wv nw x1 = true then (if nw ≤ 10 then nbV (fnd (fQ tr tm tp (npC np wv nw) x1 nw) mt 0) mt tp (tpC tp (npC np wv nw) mt nw) else tp) else tp) (if fM_typeOK nc wv nw x1 = true then (if nw ≤ 10 then nbN (fnd (fQ tr tm tp (npC np wv nw) x1 nw) mt 0) mt else mt) else mt) wv 0 (if fM_typeOK nc wv nw x1 = true then x1 else re) (if fM_typeOK nc wv nw x1 = true then nw else nm) (if fM_typeOK nc wv nw x1 = true then (npC np wv nw) else np) kk kn) [g0, gp, gr, gm, gl, gw, gn]) 0 0 (fun q => q ∈ [g0, gp, gr, gm, gl, gw, gn]) := by
  refine Met.ofW (cc := cX1_type) (maxL := 5) (ret := (some .int)) (by decide) rfl ?_
  intro p e s m args below meth c s₁ B hml hv
  obtain ⟨rfl, hP, hK, hD0⟩ := hv
  have hx := B.exec
  have hb := B.bytes
  have hr := B.returns
  have hts := atoms_spec (ws := wsZ1_type) B.pre
  have hown : s.vm.findClass RX1 = some m.cls := findClass_of_methodNamed B.named
  have hlocks := B.notSynchronized
  have hin : ∀ w ∈ u_ws RX1 TX1 13, w ∈ wsZ1_type := fun w h => List.mem_cons_of_mem _ (inZ1 w h)
  have hD : va_D (fun q => q ∈ [g0, gp, gr, gm, gl, gw, gn]) (mW g0 gp gr gm gl gw gn cI pv nc tr tm tp mt wv nw re nm np kk kn) := kD_self hD0 rfl
  have hS : va_S (fun q => q ∈ [g0, gp, gr, gm, gl, gw, gn]) s.heap s.heap [] := va_S.rf
  have hl := lv_entry ([.ref g0, .int x1]) (n := 5) (Nat.le_of_ble_eq_true rfl)
  rw [lg_entry_eq]
  generalize (lg_sl ([.ref g0, .int x1]) ++ List.replicate (5 - (lg_sl ([.ref g0, .int x1])).length) Slot.unset).toArray = ls at hl ⊢
  have hl : lv_has ls 5 [(0, .ref g0), (1, .int x1)] := hl
  refine lv_aload_n hx hb dX1_type_0 rfl (lv_at hl 0 rfl) ?_
  refine va_get (D := (dC, dI)) (ci := 1) (v := .int (nI nw)) (C := RX1) (T := TX1) (N := 13) hx hb hts hin hown hK hP 0 rfl rfl 7 (by decide) (hts _ (List.mem_cons_of_mem _ tk_fl_96)) (fun _ h9 => h9) rfl dX1_type_1 ?_
  refine lv_istore_n (lv' := [(2, .int (nI nw)), (0, .ref g0), (1, .int x1)]) hx hb dX1_type_4 rfl hl (by decide) rfl (fun ls hl => ?_)
  refine lv_aload_n hx hb dX1_type_5 rfl (lv_at hl 1 rfl) ?_
  refine lv_iconst (v := 0) hx hb dX1_type_6 (by decide) ?_
  refine kv_topi (y := nI 0) rfl ?_
  refine va_put (D := (dC, dI)) (ci := 1) (v := .int (nI 0)) (ty := .int) (C := RX1) (T := TX1) (N := 13) hx hb hts hin tyX1 tyX1_ok nmX1 hown hK hP hD hS 0 rfl rfl 7 (by decide) (hts _ (List.mem_cons_of_mem _ tk_fl_96)) (fun _ h9 => h9) rfl (by decide +kernel) rfl rfl (Nat.le_of_ble_eq_true rfl) dX1_type_7 (fun H locs hP hD hS => ?_)
  have hP : va_P (dC, dI) vwCl (mW g0 gp gr gm gl gw gn cI pv nc tr tm tp mt wv 0 re nm np kk kn) H := hP
  have hD : va_D _ (mW g0 gp gr gm gl gw gn cI pv nc tr tm tp mt wv 0 re nm np kk kn) := hD
  refine lv_aload_n hx hb dX1_type_10 rfl (lv_at hl 1 rfl) ?_
  refine lv_iload_n hx hb dX1_type_11 rfl (lv_at hl 2 rfl) ?_
  refine kc_R [.int x1] [] ⟨hx, hb, hml, hown, hts⟩ (cM_isKind l dC dI g0 gp gr gm gl gw gn cI pv nc tr tm tp mt wv 0 re nm np kk kn x1) (cwV 1 hts gZ_type_isKind rfl rfl rfl (by decide +kernel) ⟨(Nat.le_of_ble_eq_true rfl), (Nat.le_of_ble_eq_true rfl)⟩) hP hK (ci := 1) (q0 := 0) rfl rfl rfl rfl hl.1 rfl (Nat.le_of_ble_eq_true rfl) dX1_type_12 ⟨Nat.zero_le _, Nat.zero_le _⟩ ?_
  refine lv_if_eq (tgt := 28) hx hb dX1_type_15 (by decide) (fun c15 => ?_) (fun c15 => ?_)
  · refine lv_iconst (v := 0) hx hb dX1_type_28 (by decide) ?_
    refine lv_istore_n (lv' := [(3, .int 0), (2, .int (nI nw)), (0, .ref g0), (1, .int x1)]) hx hb dX1_type_29 rfl hl (by decide) rfl (fun ls hl => ?_)
    refine lv_iconst (v := 0) hx hb dX1_type_30 (by decide) ?_
    refine lv_istore (lv' := [(4, .int 0), (3, .int 0), (2, .int (nI nw)), (0, .ref g0), (1, .int x1)]) hx hb dX1_type_31 hl (by decide) rfl (fun ls hl => ?_)
    refine lv_iload hx hb dX1_type_33 (lv_at hl 0 rfl) ?_
    refine lv_iload_n hx hb dX1_type_35 rfl (lv_at hl 2 rfl) ?_
    refine lv_icmp_ge (tgt := 79) hx hb dX1_type_36 (by decide) (fun c36 => ?_) (fun c36 => ?_)
    · refine lv_iload_n hx hb dX1_type_79 rfl (lv_at hl 1 rfl) ?_
      refine lv_if_ne (tgt := 85) hx hb dX1_type_80 (by decide) (fun c80 => ?_) (fun c80 => ?_)
      · exact absurd rfl c80
      · refine lv_iconst (v := -1) hx hb dX1_type_83 (by decide) ?_
        exact W.iret hx hb hr (fun t ht hW => ⟨by rw [if_neg (show ¬ fM_typeOK nc wv nw x1 = true from (by rw [mtyOK_k c15]; decide))] <;> rfl, by rw [ht]; simp only [if_neg (show ¬ fM_typeOK nc wv nw x1 = true from (by rw [mtyOK_k c15]; decide))]; exact hP, hS.F ht⟩) hS.2.2 dX1_type_84
    · refine lv_iload_n hx hb dX1_type_39 rfl (lv_at hl 1 rfl) ?_
      refine lv_if_eq (tgt := 79) hx hb dX1_type_40 (by decide) (fun c40 => ?_) (fun c40 => ?_)
      · refine lv_iload_n hx hb dX1_type_79 rfl (lv_at hl 1 rfl) ?_
        refine lv_if_ne (tgt := 85) hx hb dX1_type_80 (by decide) (fun c80 => ?_) (fun c80 => ?_)
        · exact absurd rfl c80
        · refine lv_iconst (v := -1) hx hb dX1_type_83 (by decide) ?_
          exact W.iret hx hb hr (fun t ht hW => ⟨by rw [if_neg (show ¬ fM_typeOK nc wv nw x1 = true from (by rw [mtyOK_k c15]; decide))] <;> rfl, by rw [ht]; simp only [if_neg (show ¬ fM_typeOK nc wv nw x1 = true from (by rw [mtyOK_k c15]; decide))]; exact hP, hS.F ht⟩) hS.2.2 dX1_type_84
      · exact absurd rfl c40
  · refine lv_iload_n hx hb dX1_type_18 rfl (lv_at hl 0 rfl) ?_
    refine lv_bipush (v := 10) hx hb dX1_type_19 (by decide) ?_
    refine lv_icmp_gt (tgt := 28) hx hb dX1_type_21 (by decide) (fun c21 => ?_) (fun c21 => ?_)
    · refine lv_iconst (v := 0) hx hb dX1_type_28 (by decide) ?_
      refine lv_istore_n (lv' := [(3, .int 0), (2, .int (nI nw)), (0, .ref g0), (1, .int x1)]) hx hb dX1_type_29 rfl hl (by decide) rfl (fun ls hl => ?_)
      refine lv_iconst (v := 0) hx hb dX1_type_30 (by decide) ?_
      refine lv_istore (lv' := [(4, .int 0), (3, .int 0), (2, .int (nI nw)), (0, .ref g0), (1, .int x1)]) hx hb dX1_type_31 hl (by decide) rfl (fun ls hl => ?_)
      refine lv_iload hx hb dX1_type_33 (lv_at hl 0 rfl) ?_
      refine lv_iload_n hx hb dX1_type_35 rfl (lv_at hl 2 rfl) ?_
      refine lv_icmp_ge (tgt := 79) hx hb dX1_type_36 (by decide) (fun c36 => ?_) (fun c36 => ?_)
      · refine lv_iload_n hx hb dX1_type_79 rfl (lv_at hl 1 rfl) ?_
        refine lv_if_ne (tgt := 85) hx hb dX1_type_80 (by decide) (fun c80 => ?_) (fun c80 => ?_)
        · exact absurd rfl c80
        · refine lv_iconst (v := -1) hx hb dX1_type_83 (by decide) ?_
          exact W.iret hx hb hr (fun t ht hW => ⟨by rw [if_neg (show ¬ fM_typeOK nc wv nw x1 = true from (by rw [mtyOK_n hnw c21]; decide))] <;> rfl, by rw [ht]; simp only [if_neg (show ¬ fM_typeOK nc wv nw x1 = true from (by rw [mtyOK_n hnw c21]; decide))]; exact hP, hS.F ht⟩) hS.2.2 dX1_type_84
      · refine lv_iload_n hx hb dX1_type_39 rfl (lv_at hl 1 rfl) ?_
        refine lv_if_eq (tgt := 79) hx hb dX1_type_40 (by decide) (fun c40 => ?_) (fun c40 => ?_)
        · refine lv_iload_n hx hb dX1_type_79 rfl (lv_at hl 1 rfl) ?_
          refine lv_if_ne (tgt := 85) hx hb dX1_type_80 (by decide) (fun c80 => ?_) (fun c80 => ?_)
          · exact absurd rfl c80
          · refine lv_iconst (v := -1) hx hb dX1_type_83 (by decide) ?_
            exact W.iret hx hb hr (fun t ht hW => ⟨by rw [if_neg (show ¬ fM_typeOK nc wv nw x1 = true from (by rw [mtyOK_n hnw c21]; decide))] <;> rfl, by rw [ht]; simp only [if_neg (show ¬ fM_typeOK nc wv nw x1 = true from (by rw [mtyOK_n hnw c21]; decide))]; exact hP, hS.F ht⟩) hS.2.2 dX1_type_84
        · exact absurd rfl c40
    · refine lv_iconst (v := 1) hx hb dX1_type_24 (by decide) ?_
      refine lv_goto (tgt := 29) hx hb dX1_type_25 (by decide) ?_
      refine lv_istore_n (lv' := [(3, .int 1), (2, .int (nI nw)), (0, .ref g0), (1, .int x1)]) hx hb dX1_type_29 rfl hl (by decide) rfl (fun ls hl => ?_)
      refine lv_iconst (v := 0) hx hb dX1_type_30 (by decide) ?_
      refine lv_istore (lv' := [(4, .int 0), (3, .int 1), (2, .int (nI nw)), (0, .ref g0), (1, .int x1)]) hx hb dX1_type_31 hl (by decide) rfl (fun ls hl => ?_)
      suffices iloop : ∀ (n2 k : Nat) (b : Bool), k + n2 = nw → b = mall (fun k => fM_isKind nc (wv k) && !decide (wv k = 0)) k → ∀ (ls : Array Slot), lv_has ls 5 [(4, .int (nI k)), (3, .int (bI b)), (2, .int (nI nw)), (0, .ref g0), (1, .int x1)] → W p l e (headSpec wsZ1_type ({ frames := 2, cells := 0, slots := 0, locals := 47 })).room s m ([.ref g0, .int x1] : List Value).toArray below meth c H locs 0 0 (MQ below (kQw (dC, dI) vwCl (some (.int (if fM_typeOK nc wv nw x1 = true then (if nw ≤ 10 then nbR (fnd (fQ tr tm tp (npC np wv nw) x1 nw) mt 0) mt else (-1 : Int32)) else (-1 : Int32)))) (mW g0 gp gr gm gl gw gn cI pv nc (if fM_typeOK nc wv nw x1 = true then (if nw ≤ 10 then nbV (fnd (fQ tr tm tp (npC np wv nw) x1 nw) mt 0) mt tr (upd tr mt x1) else tr) else tr) (if fM_typeOK nc wv nw x1 = true then (if nw ≤ 10 then nbV (fnd (fQ tr tm tp (npC np wv nw) x1 nw) mt 0) mt tm (upd tm mt (nI nw)) else tm) else tm) (if fM_typeOK nc wv nw x1 = true then (if nw ≤ 10 then nbV (fnd (fQ tr tm tp (npC np wv nw) x1 nw) mt 0) mt tp (tpC tp (npC np wv nw) mt nw) else tp) else tp) (if fM_typeOK nc wv nw x1 = true then (if nw ≤ 10 then nbN (fnd (fQ tr tm tp (npC np wv nw) x1 nw) mt 0) mt else mt) else mt) wv 0 (if fM_typeOK nc wv nw x1 = true then x1 else re) (if fM_typeOK nc wv nw x1 = true then nw else nm) (if fM_typeOK nc wv nw x1 = true then (npC np wv nw) else np) kk kn) [g0, gp, gr, gm, gl, gw, gn]) ([.ref g0, .int x1] : List Value).toArray s 0 0 (fun q => q ∈ [g0, gp, gr, gm, gl, gw, gn])) (F0 m 33 ls []) by
        exact iloop nw 0 true (by omega) rfl ls (lv_sub hl [0, 1, 2, 3, 4] rfl)
      intro n2
      induction n2 with
      | zero =>
        intro k b hd hfb ls hl
        obtain rfl : nw = k := by omega
        refine lv_iload hx hb dX1_type_33 (lv_at hl 0 rfl) ?_
        refine lv_iload_n hx hb dX1_type_35 rfl (lv_at hl 2 rfl) ?_
        refine lv_icmp_ge (tgt := 79) hx hb dX1_type_36 (by decide) (fun c36 => ?_) (fun c36 => ?_)
        · refine lv_iload_n hx hb dX1_type_79 rfl (lv_at hl 1 rfl) ?_
          refine lv_if_ne (tgt := 85) hx hb dX1_type_80 (by decide) (fun c80 => ?_) (fun c80 => ?_)
          · have hok : fM_typeOK nc wv nw x1 = true := mtyOK_yes c15 c21 hnw (by rw [← hfb, bI_n0 c80])
            refine lv_aload_n hx hb dX1_type_85 rfl (lv_at hl 3 rfl) ?_
            refine lv_iload_n hx hb dX1_type_86 rfl (lv_at hl 4 rfl) ?_
            refine va_put (D := (dC, dI)) (ci := 1) (v := .int x1) (ty := .int) (C := RX1) (T := TX1) (N := 13) hx hb hts hin tyX1 tyX1_ok nmX1 hown hK hP hD hS 0 rfl rfl 8 (by decide) (hts _ (List.mem_cons_of_mem _ tk_fl_57)) (fun _ h9 => h9) rfl (by decide +kernel) rfl rfl (Nat.le_of_ble_eq_true rfl) dX1_type_87 (fun H locs hP hD hS => ?_)
            have hP : va_P (dC, dI) vwCl (mW g0 gp gr gm gl gw gn cI pv nc tr tm tp mt wv 0 x1 nm np kk kn) H := hP
            have hD : va_D _ (mW g0 gp gr gm gl gw gn cI pv nc tr tm tp mt wv 0 x1 nm np kk kn) := hD
            refine lv_aload_n hx hb dX1_type_90 rfl (lv_at hl 3 rfl) ?_
            refine lv_iload_n hx hb dX1_type_91 rfl (lv_at hl 2 rfl) ?_
            refine va_put (D := (dC, dI)) (ci := 1) (v := .int (nI nw)) (ty := .int) (C := RX1) (T := TX1) (N := 13) hx hb hts hin tyX1 tyX1_ok nmX1 hown hK hP hD hS 0 rfl rfl 9 (by decide) (hts _ (List.mem_cons_of_mem _ tk_fl_54)) (fun _ h9 => h9) rfl (by decide +kernel) rfl rfl (Nat.le_of_ble_eq_true rfl) dX1_type_92 (fun H locs hP hD hS => ?_)
            have hP : va_P (dC, dI) vwCl (mW g0 gp gr gm gl gw gn cI pv nc tr tm tp mt wv 0 x1 nw np kk kn) H := hP
            have hD : va_D _ (mW g0 gp gr gm gl gw gn cI pv nc tr tm tp mt wv 0 x1 nw np kk kn) := hD
            refine lv_iconst (v := 0) hx hb dX1_type_95 (by decide) ?_
            refine lv_istore (lv' := [(4, .int 0), (3, .int (bI b)), (2, .int (nI nw)), (0, .ref g0), (1, .int x1)]) hx hb dX1_type_96 hl (by decide) rfl (fun ls hl => ?_)
            suffices loop : ∀ (n k : Nat), k + n = nw → ∀ (H : Heap) (locs : List Loc), va_P (dC, dI) vwCl (mW g0 gp gr gm gl gw gn cI pv nc tr tm tp mt wv 0 x1 nw (npC np wv k) kk kn) H → va_D (fun q => q ∈ [g0, gp, gr, gm, gl, gw, gn]) (mW g0 gp gr gm gl gw gn cI pv nc tr tm tp mt wv 0 x1 nw (npC np wv k) kk kn) → va_S (fun q => q ∈ [g0, gp, gr, gm, gl, gw, gn]) s.heap H locs → ∀ (ls : Array Slot), lv_has ls 5 [(4, .int (nI k)), (3, .int (bI b)), (2, .int (nI nw)), (0, .ref g0), (1, .int x1)] → W p l e (headSpec wsZ1_type ({ frames := 2, cells := 0, slots := 0, locals := 47 })).room s m ([.ref g0, .int x1] : List Value).toArray below meth c H locs 0 0 (MQ below (kQw (dC, dI) vwCl (some (.int (if fM_typeOK nc wv nw x1 = true then (if nw ≤ 10 then nbR (fnd (fQ tr tm tp (npC np wv nw) x1 nw) mt 0) mt else (-1 : Int32)) else (-1 : Int32)))) (mW g0 gp gr gm gl gw gn cI pv nc (if fM_typeOK nc wv nw x1 = true then (if nw ≤ 10 then nbV (fnd (fQ tr tm tp (npC np wv nw) x1 nw) mt 0) mt tr (upd tr mt x1) else tr) else tr) (if fM_typeOK nc wv nw x1 = true then (if nw ≤ 10 then nbV (fnd (fQ tr tm tp (npC np wv nw) x1 nw) mt 0) mt tm (upd tm mt (nI nw)) else tm) else tm) (if fM_typeOK nc wv nw x1 = true then (if nw ≤ 10 then nbV (fnd (fQ tr tm tp (npC np wv nw) x1 nw) mt 0) mt tp (tpC tp (npC np wv nw) mt nw) else tp) else tp) (if fM_typeOK nc wv nw x1 = true then (if nw ≤ 10 then nbN (fnd (fQ tr tm tp (npC np wv nw) x1 nw) mt 0) mt else mt) else mt) wv 0 (if fM_typeOK nc wv nw x1 = true then x1 else re) (if fM_typeOK nc wv nw x1 = true then nw else nm) (if fM_typeOK nc wv nw x1 = true then (npC np wv nw) else np) kk kn) [g0, gp, gr, gm, gl, gw, gn]) ([.ref g0, .int x1] : List Value).toArray s 0 0 (fun q => q ∈ [g0, gp, gr, gm, gl, gw, gn])) (F0 m 98 ls []) by
              exact loop nw 0 (by omega) H locs (by rw [npC_0]; exact hP) (by rw [npC_0]; exact hD) hS ls (lv_sub hl [0, 1, 2, 3, 4] rfl)
            intro n
            induction n with
            | zero =>
              intro k hk H locs hP hD hS ls hl
              obtain rfl : nw = k := by omega
              refine lv_iload hx hb dX1_type_98 (lv_at hl 0 rfl) ?_
              refine lv_iload_n hx hb dX1_type_100 rfl (lv_at hl 2 rfl) ?_
              refine lv_icmp_ge (tgt := 124) hx hb dX1_type_101 (by decide) (fun c101 => ?_) (fun c101 => ?_)
              · refine lv_aload_n hx hb dX1_type_124 rfl (lv_at hl 3 rfl) ?_
                refine kc_W [] [] ⟨hx, hb, hml, hown, hts⟩ (cM_madeType l dC dI g0 gp gr gm gl gw gn cI pv nc tr tm tp mt wv 0 x1 nw (npC np wv nw) kk kn hmt (by omega)) (cwV 0 hts gZ_type_madeType rfl rfl rfl (by decide +kernel) ⟨(Nat.le_of_ble_eq_true rfl), (Nat.le_of_ble_eq_true rfl)⟩) hP hK hD hS rfl (ci := 1) (q0 := 0) rfl rfl rfl rfl hl.1 rfl (Nat.le_of_ble_eq_true rfl) dX1_type_125 ⟨Nat.zero_le _, Nat.zero_le _⟩ (fun H locs hP1 hS hk1 => ?_)
                have hP : va_P (dC, dI) vwCl (mW g0 gp gr gm gl gw gn cI pv nc (if nw ≤ 10 then nbV (fnd (fQ tr tm tp (npC np wv nw) x1 nw) mt 0) mt tr (upd tr mt x1) else tr) (if nw ≤ 10 then nbV (fnd (fQ tr tm tp (npC np wv nw) x1 nw) mt 0) mt tm (upd tm mt (nI nw)) else tm) (if nw ≤ 10 then nbV (fnd (fQ tr tm tp (npC np wv nw) x1 nw) mt 0) mt tp (tpC tp (npC np wv nw) mt nw) else tp) (if nw ≤ 10 then nbN (fnd (fQ tr tm tp (npC np wv nw) x1 nw) mt 0) mt else mt) wv 0 x1 nw (npC np wv nw) kk kn) H := hP1
                have hD : va_D _ (mW g0 gp gr gm gl gw gn cI pv nc (if nw ≤ 10 then nbV (fnd (fQ tr tm tp (npC np wv nw) x1 nw) mt 0) mt tr (upd tr mt x1) else tr) (if nw ≤ 10 then nbV (fnd (fQ tr tm tp (npC np wv nw) x1 nw) mt 0) mt tm (upd tm mt (nI nw)) else tm) (if nw ≤ 10 then nbV (fnd (fQ tr tm tp (npC np wv nw) x1 nw) mt 0) mt tp (tpC tp (npC np wv nw) mt nw) else tp) (if nw ≤ 10 then nbN (fnd (fQ tr tm tp (npC np wv nw) x1 nw) mt 0) mt else mt) wv 0 x1 nw (npC np wv nw) kk kn) := kD_same hD rfl
                exact W.iret hx hb hr (fun t ht hW => ⟨by rw [if_pos hok] <;> rfl, by rw [ht]; simp only [if_pos hok]; exact hP, hS.F ht⟩) hS.2.2 dX1_type_128
              · exact absurd (nI_le (by omega) (by omega)) c101
            | succ n ih =>
              intro k hk H locs hP hD hS ls hl
              refine lv_iload hx hb dX1_type_98 (lv_at hl 0 rfl) ?_
              refine lv_iload_n hx hb dX1_type_100 rfl (lv_at hl 2 rfl) ?_
              refine lv_icmp_ge (tgt := 124) hx hb dX1_type_101 (by decide) (fun c101 => ?_) (fun c101 => ?_)
              · exact absurd ((nI_leI (by omega) (by omega)).mp c101) (by omega)
              · refine lv_aload_n hx hb dX1_type_104 rfl (lv_at hl 3 rfl) ?_
                refine va_get (D := (dC, dI)) (ci := 1) (v := .ref gn) (C := RX1) (T := TX1) (N := 13) hx hb hts hin hown hK hP 0 rfl rfl 10 (by decide) (hts _ (List.mem_cons_of_mem _ tk_fl_25)) (fun _ h9 => h9) rfl dX1_type_105 ?_
                refine lv_iload hx hb dX1_type_108 (lv_at hl 0 rfl) ?_
                refine lv_aload_n hx hb dX1_type_110 rfl (lv_at hl 3 rfl) ?_
                refine va_get (D := (dC, dI)) (ci := 1) (v := .ref gw) (C := RX1) (T := TX1) (N := 13) hx hb hts hin hown hK hP 0 rfl rfl 6 (by decide) (hts _ (List.mem_cons_of_mem _ tk_fl_22)) (fun _ h9 => h9) rfl dX1_type_111 ?_
                refine lv_iload hx hb dX1_type_114 (lv_at hl 0 rfl) ?_
                refine va_iald hx hb hK hP 5 0 rfl rfl (vp_in_nI (by omega) (by decide)) dX1_type_116 ?_
                refine kv_topi (y := wv k) (by rw [nI_clamp (by omega)]) ?_
                refine va_iast hx hb hK hP hD hS 6 0 rfl rfl (vp_in_nI (by omega) (by decide)) dX1_type_117 (fun H locs hP hD hS => ?_)
                have e_as : upd (npC np wv k) (nI k).toNatClampNeg (wv k) = npC np wv (k + 1) := npC_s (by omega)
                have hP : va_P (dC, dI) vwCl (mW g0 gp gr gm gl gw gn cI pv nc tr tm tp mt wv 0 x1 nw (npC np wv (k + 1)) kk kn) H := by rw [← e_as]; exact hP
                have hD : va_D (fun q => q ∈ [g0, gp, gr, gm, gl, gw, gn]) (mW g0 gp gr gm gl gw gn cI pv nc tr tm tp mt wv 0 x1 nw (npC np wv (k + 1)) kk kn) := by rw [← e_as]; exact hD
                refine lv_iinc (v := nI (k + 1)) (lv' := [(4, .int (nI (k + 1))), (3, .int (bI b)), (2, .int (nI nw)), (0, .ref g0), (1, .int x1)]) hx hb dX1_type_118 hl (k := 0) rfl (nI_1 k) (by decide) rfl (fun ls hl => ?_)
                refine lv_goto (tgt := 98) hx hb dX1_type_121 (by decide) ?_
                exact ih (k + 1) (by omega) _ _ hP hD hS ls (lv_sub hl [0, 1, 2, 3, 4] rfl)
          · refine lv_iconst (v := -1) hx hb dX1_type_83 (by decide) ?_
            exact W.iret hx hb hr (fun t ht hW => ⟨by rw [if_neg (show ¬ fM_typeOK nc wv nw x1 = true from (by rw [mtyOK_no (by rw [← hfb, bI_e0 c80])]; decide))] <;> rfl, by rw [ht]; simp only [if_neg (show ¬ fM_typeOK nc wv nw x1 = true from (by rw [mtyOK_no (by rw [← hfb, bI_e0 c80])]; decide))]; exact hP, hS.F ht⟩) hS.2.2 dX1_type_84
        · exact absurd (nI_le (Nat.le_refl _) (by omega)) c36
      | succ n2 ih =>
        intro k b hd hfb ls hl
        refine lv_iload hx hb dX1_type_33 (lv_at hl 0 rfl) ?_
        refine lv_iload_n hx hb dX1_type_35 rfl (lv_at hl 2 rfl) ?_
        refine lv_icmp_ge (tgt := 79) hx hb dX1_type_36 (by decide) (fun c36 => ?_) (fun c36 => ?_)
        · exact absurd ((nI_leI (by omega) (by omega)).mp c36) (by omega)
        · refine lv_iload_n hx hb dX1_type_39 rfl (lv_at hl 1 rfl) ?_
          refine lv_if_eq (tgt := 79) hx hb dX1_type_40 (by decide) (fun c40 => ?_) (fun c40 => ?_)
          · refine lv_iload_n hx hb dX1_type_79 rfl (lv_at hl 1 rfl) ?_
            refine lv_if_ne (tgt := 85) hx hb dX1_type_80 (by decide) (fun c80 => ?_) (fun c80 => ?_)
            · exact absurd c40 c80
            · refine lv_iconst (v := -1) hx hb dX1_type_83 (by decide) ?_
              exact W.iret hx hb hr (fun t ht hW => ⟨by rw [if_neg (show ¬ fM_typeOK nc wv nw x1 = true from (by rw [mtyOK_no (mall_mono (d := k) (by omega) (by rw [← hfb, bI_e0 c40]))]; decide))] <;> rfl, by rw [ht]; simp only [if_neg (show ¬ fM_typeOK nc wv nw x1 = true from (by rw [mtyOK_no (mall_mono (d := k) (by omega) (by rw [← hfb, bI_e0 c40]))]; decide))]; exact hP, hS.F ht⟩) hS.2.2 dX1_type_84
          · refine lv_aload_n hx hb dX1_type_43 rfl (lv_at hl 3 rfl) ?_
            refine lv_aload_n hx hb dX1_type_44 rfl (lv_at hl 3 rfl) ?_
            refine va_get (D := (dC, dI)) (ci := 1) (v := .ref gw) (C := RX1) (T := TX1) (N := 13) hx hb hts hin hown hK hP 0 rfl rfl 6 (by decide) (hts _ (List.mem_cons_of_mem _ tk_fl_22)) (fun _ h9 => h9) rfl dX1_type_45 ?_
            refine lv_iload hx hb dX1_type_48 (lv_at hl 0 rfl) ?_
            refine va_iald hx hb hK hP 5 0 rfl rfl (vp_in_nI (by omega) (by decide)) dX1_type_50 ?_
            refine kv_topi (y := wv k) (by rw [nI_clamp (by omega)]) ?_
            refine kc_R [.int (wv k)] [] ⟨hx, hb, hml, hown, hts⟩ (cM_isKind l dC dI g0 gp gr gm gl gw gn cI pv nc tr tm tp mt wv 0 re nm np kk kn (wv k)) (cwV 1 hts gZ_type_isKind rfl rfl rfl (by decide +kernel) ⟨(Nat.le_of_ble_eq_true rfl), (Nat.le_of_ble_eq_true rfl)⟩) hP hK (ci := 1) (q0 := 0) rfl rfl rfl rfl hl.1 rfl (Nat.le_of_ble_eq_true rfl) dX1_type_51 ⟨Nat.zero_le _, Nat.zero_le _⟩ ?_
            refine lv_if_eq (tgt := 71) hx hb dX1_type_54 (by decide) (fun c54 => ?_) (fun c54 => ?_)
            · refine lv_iconst (v := 0) hx hb dX1_type_71 (by decide) ?_
              refine lv_istore_n (lv' := [(3, .int 0), (4, .int (nI k)), (2, .int (nI nw)), (0, .ref g0), (1, .int x1)]) hx hb dX1_type_72 rfl hl (by decide) rfl (fun ls hl => ?_)
              refine lv_iinc (v := nI (k + 1)) (lv' := [(4, .int (nI (k + 1))), (3, .int 0), (2, .int (nI nw)), (0, .ref g0), (1, .int x1)]) hx hb dX1_type_73 hl (k := 1) rfl (nI_1 k) (by decide) rfl (fun ls hl => ?_)
              refine lv_goto (tgt := 33) hx hb dX1_type_76 (by decide) ?_
              exact ih (k + 1) false (by omega) (by rw [mall, ← hfb, bI_n0 c40, bI_e0 c54] <;> rfl) ls (lv_sub hl [0, 1, 2, 3, 4] rfl)
            · refine lv_aload_n hx hb dX1_type_57 rfl (lv_at hl 3 rfl) ?_
              refine va_get (D := (dC, dI)) (ci := 1) (v := .ref gw) (C := RX1) (T := TX1) (N := 13) hx hb hts hin hown hK hP 0 rfl rfl 6 (by decide) (hts _ (List.mem_cons_of_mem _ tk_fl_22)) (fun _ h9 => h9) rfl dX1_type_58 ?_
              refine lv_iload hx hb dX1_type_61 (lv_at hl 0 rfl) ?_
              refine va_iald hx hb hK hP 5 0 rfl rfl (vp_in_nI (by omega) (by decide)) dX1_type_63 ?_
              refine kv_topi (y := wv k) (by rw [nI_clamp (by omega)]) ?_
              refine lv_if_eq (tgt := 71) hx hb dX1_type_64 (by decide) (fun c64 => ?_) (fun c64 => ?_)
              · refine lv_iconst (v := 0) hx hb dX1_type_71 (by decide) ?_
                refine lv_istore_n (lv' := [(3, .int 0), (4, .int (nI k)), (2, .int (nI nw)), (0, .ref g0), (1, .int x1)]) hx hb dX1_type_72 rfl hl (by decide) rfl (fun ls hl => ?_)
                refine lv_iinc (v := nI (k + 1)) (lv' := [(4, .int (nI (k + 1))), (3, .int 0), (2, .int (nI nw)), (0, .ref g0), (1, .int x1)]) hx hb dX1_type_73 hl (k := 1) rfl (nI_1 k) (by decide) rfl (fun ls hl => ?_)
                refine lv_goto (tgt := 33) hx hb dX1_type_76 (by decide) ?_
                exact ih (k + 1) false (by omega) (by rw [mall, ← hfb, bI_n0 c40, bI_n0 c54, decide_eq_true c64] <;> rfl) ls (lv_sub hl [0, 1, 2, 3, 4] rfl)
              · refine lv_iconst (v := 1) hx hb dX1_type_67 (by decide) ?_
                refine lv_goto (tgt := 72) hx hb dX1_type_68 (by decide) ?_
                refine lv_istore_n (lv' := [(3, .int 1), (4, .int (nI k)), (2, .int (nI nw)), (0, .ref g0), (1, .int x1)]) hx hb dX1_type_72 rfl hl (by decide) rfl (fun ls hl => ?_)
                refine lv_iinc (v := nI (k + 1)) (lv' := [(4, .int (nI (k + 1))), (3, .int 1), (2, .int (nI nw)), (0, .ref g0), (1, .int x1)]) hx hb dX1_type_73 hl (k := 1) rfl (nI_1 k) (by decide) rfl (fun ls hl => ?_)
                refine lv_goto (tgt := 33) hx hb dX1_type_76 (by decide) ?_
                exact ih (k + 1) true (by omega) (by rw [mall, ← hfb, bI_n0 c40, bI_n0 c54, decide_eq_false c64] <;> rfl) ls (lv_sub hl [0, 1, 2, 3, 4] rfl)
set_option maxHeartbeats 4000000 in
set_option maxRecDepth 100000 in
theorem cM_changed (l : Launch) (dC : Nat → ClassId) (dI : Nat → Nat → Nat) (g0 gp gr gm gl gw gn : Nat) (cI : ClassId) (pv : Nat → Int32) (nc : Nat) (tr : Nat → Int32) (tm : Nat → Int32) (tp : Nat → Int32) (mt : Nat) (wv : Nat → Int32) (nw : Nat) (re : Int32) (nm : Nat) (np : Nat → Int32) (kk : Int32) (kn : Int64) (tM : Nat → Nat) (x1 : Int32) (x2 : Int32) (x3 : Int32) (x4 : Int32) (hmt : mt ≤ 300) (hTM : kTM tm tM mt) : Met l yX1_changed wsZ1_changed ({ frames := 2, cells := 0, slots := 0, locals := 47 }) (kPw (dC, dI) vwCl [(cI, .int)] (mW g0 gp gr gm gl gw gn cI pv nc tr tm tp mt wv nw re nm np kk kn) [.ref g0, .int x1, .int x2, .int x3, .int x4]) (kQw (dC, dI) vwCl (some (.int (if fM_chOK tm mt x1 x2 x3 x4 = true then (if (x2.toNatClampNeg + (tm x4.toNatClampNeg).toNatClampNeg + ((tm x1.toNatClampNeg).toNatClampNeg - (x2.toNatClampNeg + x3.toNatClampNeg))) ≤ 10 then nbR (fnd (fQ tr tm tp (chN3 tp np (x1.toNatClampNeg) (x2.toNatClampNeg) (x3.toNatClampNeg) (x4.toNatClampNeg) (tm x4.toNatClampNeg).toNatClampNeg ((tm x1.toNatClampNeg).toNatClampNeg - (x2.toNatClampNeg + x3.toNatClampNeg))) (tr x1.toNatClampNeg) (x2.toNatClampNeg + (tm x4.toNatClampNeg).toNatClampNeg + ((tm x1.toNatClampNeg).toNatClampNeg - (x2.toNatClampNeg + x3.toNatClampNeg)))) mt 0) mt else (-1 : Int32)) else (-1 : Int32)))) (mW g0 gp gr gm gl gw gn cI pv nc (if fM_chOK tm mt x1 x2 x3 x4 = true then (if (x2.toNatClampNeg + (tm x4.toNatClampNeg).toNatClampNeg + ((tm x1.toNatClampNeg).toNatClampNeg - (x2.toNatClampNeg + x3.toNatClampNeg))) ≤ 10 then nbV (fnd (fQ tr tm tp (chN3 tp np (x1.toNatClampNeg) (x2.toNatClampNeg) (x3.toNatClampNeg) (x4.toNatClampNeg) (tm x4.toNatClampNeg).toNatClampNeg ((tm x1.toNatClampNeg).toNatClampNeg - (x2.toNatClampNeg + x3.toNatClampNeg))) (tr x1.toNatClampNeg) (x2.toNatClampNeg + (tm x4.toNatClampNeg).toNatClampNeg + ((tm x1.toNatClampNeg).toNatClampNeg - (x2.toNatClampNeg + x3.toNatClampNeg)))) mt 0) mt tr (upd tr mt (tr x1.toNatClampNeg)) else tr) else tr) (if fM_chOK tm mt x1 x2 x3 x4 = true then (if (x2.toNatClampNeg + (tm x4.toNatClampNeg).toNatClampNeg + ((tm x1.toNatClampNeg).toNatClampNeg - (x2.toNatClampNeg + x3.toNatClampNeg))) ≤ 10 then nbV (fnd (fQ tr tm tp (chN3 tp np (x1.toNatClampNeg) (x2.toNatClampNeg) (x3.toNatClampNeg) (x4.toNatClampNeg) (tm x4.toNatClampNeg).toNatClampNeg ((tm x1.toNatClampNeg).toNatClampNeg - (x2.toNatClampNeg + x3.toNatClampNeg))) (tr x1.toNatClampNeg) (x2.toNatClampNeg + (tm x4.toNatClampNeg).toNatClampNeg + ((tm x1.toNatClampNeg).toNatClampNeg - (x2.toNatClampNeg + x3.toNatClampNeg)))) mt 0) mt tm (upd tm mt (nI (x2.toNatClampNeg + (tm x4.toNatClampNeg).toNatClampNeg + ((tm x1.toNatClampNeg).toNatClampNeg - (x2.toNatClampNeg + x3.toNatClampNeg))))) else tm) else tm) (if fM_chOK tm mt x1 x2 x3 x4 = true then (if (x2.toNatClampNeg + (tm x4.toNatClampNeg).toNatClampNeg + ((tm x1.toNatClampNeg).toNatClampNeg - (x2.toNatClampNeg + x3.toNatClampNeg))) ≤ 10 then nbV (fnd (fQ tr tm tp (chN3 tp np (x1.toNatClampNeg) (x2.toNatClampNeg) (x3.toNatClampNeg) (x4.toNatClampNeg) (tm x4.toNatClampNeg).toNatClampNeg ((tm x1.toNatClampNeg).toNatClampNeg - (x2.toNatClampNeg + x3.toNatClampNeg))) (tr x1.toNatClampNeg) (x2.toNatClampNeg + (tm x4.toNatClampNeg).toNatClampNeg + ((tm x1.toNatClampNeg).toNatClampNeg - (x2.toNatClampNeg + x3.toNatClampNeg)))) mt 0) mt tp (tpC tp (chN3 tp np (x1.toNatClampNeg) (x2.toNatClampNeg) (x3.toNatClampNeg) (x4.toNatClampNeg) (tm x4.toNatClampNeg).toNatClampNeg ((tm x1.toNatClampNeg).toNatClampNeg - (x2.toNatClampNeg + x3.toNatClampNeg))) mt (x2.toNatClampNeg + (tm x4.toNatClampNeg).toNatClampNeg + ((tm x1.toNatClampNeg).toNatClampNeg - (x2.toNatClampNeg + x3.toNatClampNeg)))) else tp) else tp) (if fM_chOK tm mt x1 x2 x3 x4 = true then (if (x2.toNatClampNeg + (tm x4.toNatClampNeg).toNatClampNeg + ((tm x1.toNatClampNeg).toNatClampNeg - (x2.toNatClampNeg + x3.toNatClampNeg))) ≤ 10 then nbN (fnd (fQ tr tm tp (chN3 tp np (x1.toNatClampNeg) (x2.toNatClampNeg) (x3.toNatClampNeg) (x4.toNatClampNeg) (tm x4.toNatClampNeg).toNatClampNeg ((tm x1.toNatClampNeg).toNatClampNeg - (x2.toNatClampNeg + x3.toNatClampNeg))) (tr x1.toNatClampNeg) (x2.toNatClampNeg + (tm x4.toNatClampNeg).toNatClampNeg + ((tm x1.toNatClampNeg).toNatClampNeg - (x2.toNatClampNeg + x3.toNatClampNeg)))) mt 0) mt else mt) else mt) wv nw (if fM_chOK tm mt x1 x2 x3 x4 = true then (tr x1.toNatClampNeg) else re) (if fM_chOK tm mt x1 x2 x3 x4 = true then (x2.toNatClampNeg + (tm x4.toNatClampNeg).toNatClampNeg + ((tm x1.toNatClampNeg).toNatClampNeg - (x2.toNatClampNeg + x3.toNatClampNeg))) else nm) (if fM_chOK tm mt x1 x2 x3 x4 = true then (chN3 tp np (x1.toNatClampNeg) (x2.toNatClampNeg) (x3.toNatClampNeg) (x4.toNatClampNeg) (tm x4.toNatClampNeg).toNatClampNeg ((tm x1.toNatClampNeg).toNatClampNeg - (x2.toNatClampNeg + x3.toNatClampNeg))) else np) kk kn) [g0, gp, gr, gm, gl, gw, gn]) 0 0 (fun q => q ∈ [g0, gp, gr, gm, gl, gw, gn]) := by
  refine Met.ofW (cc := cX1_changed) (maxL := 6) (ret := (some .int)) (by decide) rfl ?_
  intro p e s m args below meth c s₁ B hml hv
  obtain ⟨rfl, hP, hK, hD0⟩ := hv
  have hx := B.exec
  have hb := B.bytes
  have hr := B.returns
  have hts := atoms_spec (ws := wsZ1_changed) B.pre
  have hown : s.vm.findClass RX1 = some m.cls := findClass_of_methodNamed B.named
  have hlocks := B.notSynchronized
  have hin : ∀ w ∈ u_ws RX1 TX1 13, w ∈ wsZ1_changed := fun w h => List.mem_cons_of_mem _ (inZ1 w h)
  have hD : va_D (fun q => q ∈ [g0, gp, gr, gm, gl, gw, gn]) (mW g0 gp gr gm gl gw gn cI pv nc tr tm tp mt wv nw re nm np kk kn) := kD_self hD0 rfl
  have hS : va_S (fun q => q ∈ [g0, gp, gr, gm, gl, gw, gn]) s.heap s.heap [] := va_S.rf
  have hl := lv_entry ([.ref g0, .int x1, .int x2, .int x3, .int x4]) (n := 6) (Nat.le_of_ble_eq_true rfl)
  rw [lg_entry_eq]
  generalize (lg_sl ([.ref g0, .int x1, .int x2, .int x3, .int x4]) ++ List.replicate (6 - (lg_sl ([.ref g0, .int x1, .int x2, .int x3, .int x4])).length) Slot.unset).toArray = ls at hl ⊢
  have hl : lv_has ls 6 [(0, .ref g0), (1, .int x1), (2, .int x2), (3, .int x3), (4, .int x4)] := hl
  refine lv_aload_n hx hb dX1_changed_0 rfl (lv_at hl 0 rfl) ?_
  refine lv_iload_n hx hb dX1_changed_1 rfl (lv_at hl 1 rfl) ?_
  refine kc_R [.int x1] [] ⟨hx, hb, hml, hown, hts⟩ (cM_isType l dC dI g0 gp gr gm gl gw gn cI pv nc tr tm tp mt wv nw re nm np kk kn x1) (cwV 1 hts gZ_changed_isType rfl rfl rfl (by decide +kernel) ⟨(Nat.le_of_ble_eq_true rfl), (Nat.le_of_ble_eq_true rfl)⟩) hP hK (ci := 1) (q0 := 0) rfl rfl rfl rfl hl.1 rfl (Nat.le_of_ble_eq_true rfl) dX1_changed_2 ⟨Nat.zero_le _, Nat.zero_le _⟩ ?_
  refine lv_if_eq (tgt := 41) hx hb dX1_changed_5 (by decide) (fun c5 => ?_) (fun c5 => ?_)
  · refine lv_iconst (v := -1) hx hb dX1_changed_41 (by decide) ?_
    exact W.iret hx hb hr (fun t ht hW => ⟨by rw [if_neg (show ¬ fM_chOK tm mt x1 x2 x3 x4 = true from (by rw [fM_chOK, if_pos c5]; decide))] <;> rfl, by rw [ht]; simp only [if_neg (show ¬ fM_chOK tm mt x1 x2 x3 x4 = true from (by rw [fM_chOK, if_pos c5]; decide))]; exact hP, hS.F ht⟩) hS.2.2 dX1_changed_42
  · refine lv_aload_n hx hb dX1_changed_8 rfl (lv_at hl 0 rfl) ?_
    refine lv_iload hx hb dX1_changed_9 (lv_at hl 4 rfl) ?_
    refine kc_R [.int x4] [] ⟨hx, hb, hml, hown, hts⟩ (cM_isType l dC dI g0 gp gr gm gl gw gn cI pv nc tr tm tp mt wv nw re nm np kk kn x4) (cwV 1 hts gZ_changed_isType rfl rfl rfl (by decide +kernel) ⟨(Nat.le_of_ble_eq_true rfl), (Nat.le_of_ble_eq_true rfl)⟩) hP hK (ci := 1) (q0 := 0) rfl rfl rfl rfl hl.1 rfl (Nat.le_of_ble_eq_true rfl) dX1_changed_11 ⟨Nat.zero_le _, Nat.zero_le _⟩ ?_
    refine lv_if_eq (tgt := 41) hx hb dX1_changed_14 (by decide) (fun c14 => ?_) (fun c14 => ?_)
    · refine lv_iconst (v := -1) hx hb dX1_changed_41 (by decide) ?_
      exact W.iret hx hb hr (fun t ht hW => ⟨by rw [if_neg (show ¬ fM_chOK tm mt x1 x2 x3 x4 = true from (by rw [fM_chOK, if_neg c5, if_pos c14]; decide))] <;> rfl, by rw [ht]; simp only [if_neg (show ¬ fM_chOK tm mt x1 x2 x3 x4 = true from (by rw [fM_chOK, if_neg c5, if_pos c14]; decide))]; exact hP, hS.F ht⟩) hS.2.2 dX1_changed_42
    · obtain ⟨i, hi, rfl⟩ := vp_in_of (mT_in hmt c5) (by omega)
      obtain ⟨u, hu, rfl⟩ := vp_in_of (mT_in hmt c14) (by omega)
      have hti := (hTM i hi).2
      have htu := (hTM u hu).2
      refine lv_iload_n hx hb dX1_changed_17 rfl (lv_at hl 2 rfl) ?_
      refine lv_if_lt (tgt := 41) hx hb dX1_changed_18 (by decide) (fun c18 => ?_) (fun c18 => ?_)
      · refine lv_iconst (v := -1) hx hb dX1_changed_41 (by decide) ?_
        exact W.iret hx hb hr (fun t ht hW => ⟨by rw [if_neg (show ¬ fM_chOK tm mt (nI i) x2 x3 (nI u) = true from (by rw [fM_chOK, if_neg c5, if_neg c14, if_pos c18]; decide))] <;> rfl, by rw [ht]; simp only [if_neg (show ¬ fM_chOK tm mt (nI i) x2 x3 (nI u) = true from (by rw [fM_chOK, if_neg c5, if_neg c14, if_pos c18]; decide))]; exact hP, hS.F ht⟩) hS.2.2 dX1_changed_42
      · refine lv_iload_n hx hb dX1_changed_21 rfl (lv_at hl 3 rfl) ?_
        refine lv_if_lt (tgt := 41) hx hb dX1_changed_22 (by decide) (fun c22 => ?_) (fun c22 => ?_)
        · refine lv_iconst (v := -1) hx hb dX1_changed_41 (by decide) ?_
          exact W.iret hx hb hr (fun t ht hW => ⟨by rw [if_neg (show ¬ fM_chOK tm mt (nI i) x2 x3 (nI u) = true from (by rw [fM_chOK, if_neg c5, if_neg c14, if_neg c18, if_pos c22]; decide))] <;> rfl, by rw [ht]; simp only [if_neg (show ¬ fM_chOK tm mt (nI i) x2 x3 (nI u) = true from (by rw [fM_chOK, if_neg c5, if_neg c14, if_neg c18, if_pos c22]; decide))]; exact hP, hS.F ht⟩) hS.2.2 dX1_changed_42
        · obtain ⟨a, ha, rfl⟩ := nI_of c18
          obtain ⟨b, hb2, rfl⟩ := nI_of c22
          refine lv_iload_n hx hb dX1_changed_25 rfl (lv_at hl 2 rfl) ?_
          refine lv_i2l hx hb dX1_changed_26 rfl ?_
          refine lv_iload_n hx hb dX1_changed_27 rfl (lv_at hl 3 rfl) ?_
          refine lv_i2l hx hb dX1_changed_28 rfl ?_
          refine lv_ladd hx hb dX1_changed_29 ?_
          refine lv_aload_n hx hb dX1_changed_30 rfl (lv_at hl 0 rfl) ?_
          refine va_get (D := (dC, dI)) (ci := 1) (v := .ref gm) (C := RX1) (T := TX1) (N := 13) hx hb hts hin hown hK hP 0 rfl rfl 3 (by decide) (hts _ (List.mem_cons_of_mem _ tk_fl_16)) (fun _ h9 => h9) rfl dX1_changed_31 ?_
          refine lv_iload_n hx hb dX1_changed_34 rfl (lv_at hl 1 rfl) ?_
          refine va_iald hx hb hK hP 3 0 rfl rfl (vp_in_nI (by omega) (by decide)) dX1_changed_35 ?_
          refine kv_topi (y := nI (tM i)) (by rw [nI_clamp (by omega), (hTM i hi).1]) ?_
          refine lv_i2l hx hb dX1_changed_36 rfl ?_
          refine W.lcmp hx hb dX1_changed_37 ?_
          refine lv_if_le (tgt := 43) hx hb dX1_changed_38 (by decide) (fun c38 => ?_) (fun c38 => ?_)
          · have hab : a + b ≤ tM i := (ch_le ha hb2 hti).mp c38
            have hok : fM_chOK tm mt (nI i) (nI a) (nI b) (nI u) = true := by rw [fM_chOK, if_neg c5, if_neg c14, if_neg c18, if_neg c22, nI_clamp (by omega), (hTM i hi).1, if_pos c38]
            have hci : (nI i).toNatClampNeg = i := nI_clamp (by omega)
            have hca : (nI a).toNatClampNeg = a := nI_clamp (by omega)
            have hcb : (nI b).toNatClampNeg = b := nI_clamp (by omega)
            have hcu : (nI u).toNatClampNeg = u := nI_clamp (by omega)
            have hcmi : (nI (tM i)).toNatClampNeg = tM i := nI_clamp (by omega)
            have hcmu : (nI (tM u)).toNatClampNeg = tM u := nI_clamp (by omega)
            refine lv_aload_n hx hb dX1_changed_43 rfl (lv_at hl 0 rfl) ?_
            refine lv_aload_n hx hb dX1_changed_44 rfl (lv_at hl 0 rfl) ?_
            refine va_get (D := (dC, dI)) (ci := 1) (v := .ref gr) (C := RX1) (T := TX1) (N := 13) hx hb hts hin hown hK hP 0 rfl rfl 2 (by decide) (hts _ (List.mem_cons_of_mem _ tk_fl_13)) (fun _ h9 => h9) rfl dX1_changed_45 ?_
            refine lv_iload_n hx hb dX1_changed_48 rfl (lv_at hl 1 rfl) ?_
            refine va_iald hx hb hK hP 2 0 rfl rfl (vp_in_nI (by omega) (by decide)) dX1_changed_49 ?_
            refine kv_topi (y := tr i) (by rw [nI_clamp (by omega)]) ?_
            refine va_put (D := (dC, dI)) (ci := 1) (v := .int (tr i)) (ty := .int) (C := RX1) (T := TX1) (N := 13) hx hb hts hin tyX1 tyX1_ok nmX1 hown hK hP hD hS 0 rfl rfl 8 (by decide) (hts _ (List.mem_cons_of_mem _ tk_fl_57)) (fun _ h9 => h9) rfl (by decide +kernel) rfl rfl (Nat.le_of_ble_eq_true rfl) dX1_changed_50 (fun H locs hP hD hS => ?_)
            have hP : va_P (dC, dI) vwCl (mW g0 gp gr gm gl gw gn cI pv nc tr tm tp mt wv nw (tr i) nm np kk kn) H := hP
            have hD : va_D _ (mW g0 gp gr gm gl gw gn cI pv nc tr tm tp mt wv nw (tr i) nm np kk kn) := hD
            refine lv_aload_n hx hb dX1_changed_53 rfl (lv_at hl 0 rfl) ?_
            refine lv_iconst (v := 0) hx hb dX1_changed_54 (by decide) ?_
            refine kv_topi (y := nI 0) rfl ?_
            refine va_put (D := (dC, dI)) (ci := 1) (v := .int (nI 0)) (ty := .int) (C := RX1) (T := TX1) (N := 13) hx hb hts hin tyX1 tyX1_ok nmX1 hown hK hP hD hS 0 rfl rfl 9 (by decide) (hts _ (List.mem_cons_of_mem _ tk_fl_54)) (fun _ h9 => h9) rfl (by decide +kernel) rfl rfl (Nat.le_of_ble_eq_true rfl) dX1_changed_55 (fun H locs hP hD hS => ?_)
            have hP : va_P (dC, dI) vwCl (mW g0 gp gr gm gl gw gn cI pv nc tr tm tp mt wv nw (tr i) 0 np kk kn) H := hP
            have hD : va_D _ (mW g0 gp gr gm gl gw gn cI pv nc tr tm tp mt wv nw (tr i) 0 np kk kn) := hD
            refine lv_iconst (v := 0) hx hb dX1_changed_58 (by decide) ?_
            refine lv_istore (lv' := [(5, .int 0), (0, .ref g0), (1, .int (nI i)), (2, .int (nI a)), (3, .int (nI b)), (4, .int (nI u))]) hx hb dX1_changed_59 hl (by decide) rfl (fun ls hl => ?_)
            suffices loop1 : ∀ (n k : Nat), k + n = a → ∀ (H : Heap) (locs : List Loc), va_P (dC, dI) vwCl (mW g0 gp gr gm gl gw gn cI pv nc tr tm tp mt wv nw (tr i) k (chN1 tp np i k) kk kn) H → va_D (fun q => q ∈ [g0, gp, gr, gm, gl, gw, gn]) (mW g0 gp gr gm gl gw gn cI pv nc tr tm tp mt wv nw (tr i) k (chN1 tp np i k) kk kn) → va_S (fun q => q ∈ [g0, gp, gr, gm, gl, gw, gn]) s.heap H locs → ∀ (ls : Array Slot), lv_has ls 6 [(5, .int (nI (k))), (0, .ref g0), (1, .int (nI i)), (2, .int (nI a)), (3, .int (nI b)), (4, .int (nI u))] → W p l e (headSpec wsZ1_changed ({ frames := 2, cells := 0, slots := 0, locals := 47 })).room s m ([.ref g0, .int (nI i), .int (nI a), .int (nI b), .int (nI u)] : List Value).toArray below meth c H locs 0 0 (MQ below (kQw (dC, dI) vwCl (some (.int (if fM_chOK tm mt (nI i) (nI a) (nI b) (nI u) = true then (if ((nI a).toNatClampNeg + (tm (nI u).toNatClampNeg).toNatClampNeg + ((tm (nI i).toNatClampNeg).toNatClampNeg - ((nI a).toNatClampNeg + (nI b).toNatClampNeg))) ≤ 10 then nbR (fnd (fQ tr tm tp (chN3 tp np ((nI i).toNatClampNeg) ((nI a).toNatClampNeg) ((nI b).toNatClampNeg) ((nI u).toNatClampNeg) (tm (nI u).toNatClampNeg).toNatClampNeg ((tm (nI i).toNatClampNeg).toNatClampNeg - ((nI a).toNatClampNeg + (nI b).toNatClampNeg))) (tr (nI i).toNatClampNeg) ((nI a).toNatClampNeg + (tm (nI u).toNatClampNeg).toNatClampNeg + ((tm (nI i).toNatClampNeg).toNatClampNeg - ((nI a).toNatClampNeg + (nI b).toNatClampNeg)))) mt 0) mt else (-1 : Int32)) else (-1 : Int32)))) (mW g0 gp gr gm gl gw gn cI pv nc (if fM_chOK tm mt (nI i) (nI a) (nI b) (nI u) = true then (if ((nI a).toNatClampNeg + (tm (nI u).toNatClampNeg).toNatClampNeg + ((tm (nI i).toNatClampNeg).toNatClampNeg - ((nI a).toNatClampNeg + (nI b).toNatClampNeg))) ≤ 10 then nbV (fnd (fQ tr tm tp (chN3 tp np ((nI i).toNatClampNeg) ((nI a).toNatClampNeg) ((nI b).toNatClampNeg) ((nI u).toNatClampNeg) (tm (nI u).toNatClampNeg).toNatClampNeg ((tm (nI i).toNatClampNeg).toNatClampNeg - ((nI a).toNatClampNeg + (nI b).toNatClampNeg))) (tr (nI i).toNatClampNeg) ((nI a).toNatClampNeg + (tm (nI u).toNatClampNeg).toNatClampNeg + ((tm (nI i).toNatClampNeg).toNatClampNeg - ((nI a).toNatClampNeg + (nI b).toNatClampNeg)))) mt 0) mt tr (upd tr mt (tr (nI i).toNatClampNeg)) else tr) else tr) (if fM_chOK tm mt (nI i) (nI a) (nI b) (nI u) = true then (if ((nI a).toNatClampNeg + (tm (nI u).toNatClampNeg).toNatClampNeg + ((tm (nI i).toNatClampNeg).toNatClampNeg - ((nI a).toNatClampNeg + (nI b).toNatClampNeg))) ≤ 10 then nbV (fnd (fQ tr tm tp (chN3 tp np ((nI i).toNatClampNeg) ((nI a).toNatClampNeg) ((nI b).toNatClampNeg) ((nI u).toNatClampNeg) (tm (nI u).toNatClampNeg).toNatClampNeg ((tm (nI i).toNatClampNeg).toNatClampNeg - ((nI a).toNatClampNeg + (nI b).toNatClampNeg))) (tr (nI i).toNatClampNeg) ((nI a).toNatClampNeg + (tm (nI u).toNatClampNeg).toNatClampNeg + ((tm (nI i).toNatClampNeg).toNatClampNeg - ((nI a).toNatClampNeg + (nI b).toNatClampNeg)))) mt 0) mt tm (upd tm mt (nI ((nI a).toNatClampNeg + (tm (nI u).toNatClampNeg).toNatClampNeg + ((tm (nI i).toNatClampNeg).toNatClampNeg - ((nI a).toNatClampNeg + (nI b).toNatClampNeg))))) else tm) else tm) (if fM_chOK tm mt (nI i) (nI a) (nI b) (nI u) = true then (if ((nI a).toNatClampNeg + (tm (nI u).toNatClampNeg).toNatClampNeg + ((tm (nI i).toNatClampNeg).toNatClampNeg - ((nI a).toNatClampNeg + (nI b).toNatClampNeg))) ≤ 10 then nbV (fnd (fQ tr tm tp (chN3 tp np ((nI i).toNatClampNeg) ((nI a).toNatClampNeg) ((nI b).toNatClampNeg) ((nI u).toNatClampNeg) (tm (nI u).toNatClampNeg).toNatClampNeg ((tm (nI i).toNatClampNeg).toNatClampNeg - ((nI a).toNatClampNeg + (nI b).toNatClampNeg))) (tr (nI i).toNatClampNeg) ((nI a).toNatClampNeg + (tm (nI u).toNatClampNeg).toNatClampNeg + ((tm (nI i).toNatClampNeg).toNatClampNeg - ((nI a).toNatClampNeg + (nI b).toNatClampNeg)))) mt 0) mt tp (tpC tp (chN3 tp np ((nI i).toNatClampNeg) ((nI a).toNatClampNeg) ((nI b).toNatClampNeg) ((nI u).toNatClampNeg) (tm (nI u).toNatClampNeg).toNatClampNeg ((tm (nI i).toNatClampNeg).toNatClampNeg - ((nI a).toNatClampNeg + (nI b).toNatClampNeg))) mt ((nI a).toNatClampNeg + (tm (nI u).toNatClampNeg).toNatClampNeg + ((tm (nI i).toNatClampNeg).toNatClampNeg - ((nI a).toNatClampNeg + (nI b).toNatClampNeg)))) else tp) else tp) (if fM_chOK tm mt (nI i) (nI a) (nI b) (nI u) = true then (if ((nI a).toNatClampNeg + (tm (nI u).toNatClampNeg).toNatClampNeg + ((tm (nI i).toNatClampNeg).toNatClampNeg - ((nI a).toNatClampNeg + (nI b).toNatClampNeg))) ≤ 10 then nbN (fnd (fQ tr tm tp (chN3 tp np ((nI i).toNatClampNeg) ((nI a).toNatClampNeg) ((nI b).toNatClampNeg) ((nI u).toNatClampNeg) (tm (nI u).toNatClampNeg).toNatClampNeg ((tm (nI i).toNatClampNeg).toNatClampNeg - ((nI a).toNatClampNeg + (nI b).toNatClampNeg))) (tr (nI i).toNatClampNeg) ((nI a).toNatClampNeg + (tm (nI u).toNatClampNeg).toNatClampNeg + ((tm (nI i).toNatClampNeg).toNatClampNeg - ((nI a).toNatClampNeg + (nI b).toNatClampNeg)))) mt 0) mt else mt) else mt) wv nw (if fM_chOK tm mt (nI i) (nI a) (nI b) (nI u) = true then (tr (nI i).toNatClampNeg) else re) (if fM_chOK tm mt (nI i) (nI a) (nI b) (nI u) = true then ((nI a).toNatClampNeg + (tm (nI u).toNatClampNeg).toNatClampNeg + ((tm (nI i).toNatClampNeg).toNatClampNeg - ((nI a).toNatClampNeg + (nI b).toNatClampNeg))) else nm) (if fM_chOK tm mt (nI i) (nI a) (nI b) (nI u) = true then (chN3 tp np ((nI i).toNatClampNeg) ((nI a).toNatClampNeg) ((nI b).toNatClampNeg) ((nI u).toNatClampNeg) (tm (nI u).toNatClampNeg).toNatClampNeg ((tm (nI i).toNatClampNeg).toNatClampNeg - ((nI a).toNatClampNeg + (nI b).toNatClampNeg))) else np) kk kn) [g0, gp, gr, gm, gl, gw, gn]) ([.ref g0, .int (nI i), .int (nI a), .int (nI b), .int (nI u)] : List Value).toArray s 0 0 (fun q => q ∈ [g0, gp, gr, gm, gl, gw, gn])) (F0 m 61 ls []) by
              exact loop1 (a) 0 (by omega) H locs hP hD hS ls (lv_sub hl [0, 1, 2, 3, 4, 5] rfl)
            intro n
            induction n with
            | zero =>
              intro k hk H locs hP hD hS ls hl
              obtain rfl : a = k := by omega
              refine lv_iload hx hb dX1_changed_61 (lv_at hl 0 rfl) ?_
              refine lv_iload_n hx hb dX1_changed_63 rfl (lv_at hl 3 rfl) ?_
              refine lv_icmp_ge (tgt := 89) hx hb dX1_changed_64 (by decide) (fun c64 => ?_) (fun c64 => ?_)
              · refine lv_iconst (v := 0) hx hb dX1_changed_89 (by decide) ?_
                refine lv_istore (lv' := [(5, .int 0), (0, .ref g0), (1, .int (nI i)), (2, .int (nI a)), (3, .int (nI b)), (4, .int (nI u))]) hx hb dX1_changed_90 hl (by decide) rfl (fun ls hl => ?_)
                suffices loop2 : ∀ (n k : Nat), k + n = tM u → ∀ (H : Heap) (locs : List Loc), va_P (dC, dI) vwCl (mW g0 gp gr gm gl gw gn cI pv nc tr tm tp mt wv nw (tr i) (a + k) (chN2 tp np i a u k) kk kn) H → va_D (fun q => q ∈ [g0, gp, gr, gm, gl, gw, gn]) (mW g0 gp gr gm gl gw gn cI pv nc tr tm tp mt wv nw (tr i) (a + k) (chN2 tp np i a u k) kk kn) → va_S (fun q => q ∈ [g0, gp, gr, gm, gl, gw, gn]) s.heap H locs → ∀ (ls : Array Slot), lv_has ls 6 [(5, .int (nI (k))), (0, .ref g0), (1, .int (nI i)), (2, .int (nI a)), (3, .int (nI b)), (4, .int (nI u))] → W p l e (headSpec wsZ1_changed ({ frames := 2, cells := 0, slots := 0, locals := 47 })).room s m ([.ref g0, .int (nI i), .int (nI a), .int (nI b), .int (nI u)] : List Value).toArray below meth c H locs 0 0 (MQ below (kQw (dC, dI) vwCl (some (.int (if fM_chOK tm mt (nI i) (nI a) (nI b) (nI u) = true then (if ((nI a).toNatClampNeg + (tm (nI u).toNatClampNeg).toNatClampNeg + ((tm (nI i).toNatClampNeg).toNatClampNeg - ((nI a).toNatClampNeg + (nI b).toNatClampNeg))) ≤ 10 then nbR (fnd (fQ tr tm tp (chN3 tp np ((nI i).toNatClampNeg) ((nI a).toNatClampNeg) ((nI b).toNatClampNeg) ((nI u).toNatClampNeg) (tm (nI u).toNatClampNeg).toNatClampNeg ((tm (nI i).toNatClampNeg).toNatClampNeg - ((nI a).toNatClampNeg + (nI b).toNatClampNeg))) (tr (nI i).toNatClampNeg) ((nI a).toNatClampNeg + (tm (nI u).toNatClampNeg).toNatClampNeg + ((tm (nI i).toNatClampNeg).toNatClampNeg - ((nI a).toNatClampNeg + (nI b).toNatClampNeg)))) mt 0) mt else (-1 : Int32)) else (-1 : Int32)))) (mW g0 gp gr gm gl gw gn cI pv nc (if fM_chOK tm mt (nI i) (nI a) (nI b) (nI u) = true then (if ((nI a).toNatClampNeg + (tm (nI u).toNatClampNeg).toNatClampNeg + ((tm (nI i).toNatClampNeg).toNatClampNeg - ((nI a).toNatClampNeg + (nI b).toNatClampNeg))) ≤ 10 then nbV (fnd (fQ tr tm tp (chN3 tp np ((nI i).toNatClampNeg) ((nI a).toNatClampNeg) ((nI b).toNatClampNeg) ((nI u).toNatClampNeg) (tm (nI u).toNatClampNeg).toNatClampNeg ((tm (nI i).toNatClampNeg).toNatClampNeg - ((nI a).toNatClampNeg + (nI b).toNatClampNeg))) (tr (nI i).toNatClampNeg) ((nI a).toNatClampNeg + (tm (nI u).toNatClampNeg).toNatClampNeg + ((tm (nI i).toNatClampNeg).toNatClampNeg - ((nI a).toNatClampNeg + (nI b).toNatClampNeg)))) mt 0) mt tr (upd tr mt (tr (nI i).toNatClampNeg)) else tr) else tr) (if fM_chOK tm mt (nI i) (nI a) (nI b) (nI u) = true then (if ((nI a).toNatClampNeg + (tm (nI u).toNatClampNeg).toNatClampNeg + ((tm (nI i).toNatClampNeg).toNatClampNeg - ((nI a).toNatClampNeg + (nI b).toNatClampNeg))) ≤ 10 then nbV (fnd (fQ tr tm tp (chN3 tp np ((nI i).toNatClampNeg) ((nI a).toNatClampNeg) ((nI b).toNatClampNeg) ((nI u).toNatClampNeg) (tm (nI u).toNatClampNeg).toNatClampNeg ((tm (nI i).toNatClampNeg).toNatClampNeg - ((nI a).toNatClampNeg + (nI b).toNatClampNeg))) (tr (nI i).toNatClampNeg) ((nI a).toNatClampNeg + (tm (nI u).toNatClampNeg).toNatClampNeg + ((tm (nI i).toNatClampNeg).toNatClampNeg - ((nI a).toNatClampNeg + (nI b).toNatClampNeg)))) mt 0) mt tm (upd tm mt (nI ((nI a).toNatClampNeg + (tm (nI u).toNatClampNeg).toNatClampNeg + ((tm (nI i).toNatClampNeg).toNatClampNeg - ((nI a).toNatClampNeg + (nI b).toNatClampNeg))))) else tm) else tm) (if fM_chOK tm mt (nI i) (nI a) (nI b) (nI u) = true then (if ((nI a).toNatClampNeg + (tm (nI u).toNatClampNeg).toNatClampNeg + ((tm (nI i).toNatClampNeg).toNatClampNeg - ((nI a).toNatClampNeg + (nI b).toNatClampNeg))) ≤ 10 then nbV (fnd (fQ tr tm tp (chN3 tp np ((nI i).toNatClampNeg) ((nI a).toNatClampNeg) ((nI b).toNatClampNeg) ((nI u).toNatClampNeg) (tm (nI u).toNatClampNeg).toNatClampNeg ((tm (nI i).toNatClampNeg).toNatClampNeg - ((nI a).toNatClampNeg + (nI b).toNatClampNeg))) (tr (nI i).toNatClampNeg) ((nI a).toNatClampNeg + (tm (nI u).toNatClampNeg).toNatClampNeg + ((tm (nI i).toNatClampNeg).toNatClampNeg - ((nI a).toNatClampNeg + (nI b).toNatClampNeg)))) mt 0) mt tp (tpC tp (chN3 tp np ((nI i).toNatClampNeg) ((nI a).toNatClampNeg) ((nI b).toNatClampNeg) ((nI u).toNatClampNeg) (tm (nI u).toNatClampNeg).toNatClampNeg ((tm (nI i).toNatClampNeg).toNatClampNeg - ((nI a).toNatClampNeg + (nI b).toNatClampNeg))) mt ((nI a).toNatClampNeg + (tm (nI u).toNatClampNeg).toNatClampNeg + ((tm (nI i).toNatClampNeg).toNatClampNeg - ((nI a).toNatClampNeg + (nI b).toNatClampNeg)))) else tp) else tp) (if fM_chOK tm mt (nI i) (nI a) (nI b) (nI u) = true then (if ((nI a).toNatClampNeg + (tm (nI u).toNatClampNeg).toNatClampNeg + ((tm (nI i).toNatClampNeg).toNatClampNeg - ((nI a).toNatClampNeg + (nI b).toNatClampNeg))) ≤ 10 then nbN (fnd (fQ tr tm tp (chN3 tp np ((nI i).toNatClampNeg) ((nI a).toNatClampNeg) ((nI b).toNatClampNeg) ((nI u).toNatClampNeg) (tm (nI u).toNatClampNeg).toNatClampNeg ((tm (nI i).toNatClampNeg).toNatClampNeg - ((nI a).toNatClampNeg + (nI b).toNatClampNeg))) (tr (nI i).toNatClampNeg) ((nI a).toNatClampNeg + (tm (nI u).toNatClampNeg).toNatClampNeg + ((tm (nI i).toNatClampNeg).toNatClampNeg - ((nI a).toNatClampNeg + (nI b).toNatClampNeg)))) mt 0) mt else mt) else mt) wv nw (if fM_chOK tm mt (nI i) (nI a) (nI b) (nI u) = true then (tr (nI i).toNatClampNeg) else re) (if fM_chOK tm mt (nI i) (nI a) (nI b) (nI u) = true then ((nI a).toNatClampNeg + (tm (nI u).toNatClampNeg).toNatClampNeg + ((tm (nI i).toNatClampNeg).toNatClampNeg - ((nI a).toNatClampNeg + (nI b).toNatClampNeg))) else nm) (if fM_chOK tm mt (nI i) (nI a) (nI b) (nI u) = true then (chN3 tp np ((nI i).toNatClampNeg) ((nI a).toNatClampNeg) ((nI b).toNatClampNeg) ((nI u).toNatClampNeg) (tm (nI u).toNatClampNeg).toNatClampNeg ((tm (nI i).toNatClampNeg).toNatClampNeg - ((nI a).toNatClampNeg + (nI b).toNatClampNeg))) else np) kk kn) [g0, gp, gr, gm, gl, gw, gn]) ([.ref g0, .int (nI i), .int (nI a), .int (nI b), .int (nI u)] : List Value).toArray s 0 0 (fun q => q ∈ [g0, gp, gr, gm, gl, gw, gn])) (F0 m 92 ls []) by
                  exact loop2 (tM u) 0 (by omega) H locs hP hD hS ls (lv_sub hl [0, 1, 2, 3, 4, 5] rfl)
                intro n
                induction n with
                | zero =>
                  intro k hk H locs hP hD hS ls hl
                  obtain rfl : tM u = k := by omega
                  refine lv_iload hx hb dX1_changed_92 (lv_at hl 0 rfl) ?_
                  refine lv_aload_n hx hb dX1_changed_94 rfl (lv_at hl 1 rfl) ?_
                  refine va_get (D := (dC, dI)) (ci := 1) (v := .ref gm) (C := RX1) (T := TX1) (N := 13) hx hb hts hin hown hK hP 0 rfl rfl 3 (by decide) (hts _ (List.mem_cons_of_mem _ tk_fl_16)) (fun _ h9 => h9) rfl dX1_changed_95 ?_
                  refine lv_iload hx hb dX1_changed_98 (lv_at hl 5 rfl) ?_
                  refine va_iald hx hb hK hP 3 0 rfl rfl (vp_in_nI (by omega) (by decide)) dX1_changed_100 ?_
                  refine kv_topi (y := nI (tM u)) (by rw [nI_clamp (by omega), (hTM u hu).1]) ?_
                  refine lv_icmp_ge (tgt := 127) hx hb dX1_changed_101 (by decide) (fun c101 => ?_) (fun c101 => ?_)
                  · refine lv_iload_n hx hb dX1_changed_127 rfl (lv_at hl 3 rfl) ?_
                    refine lv_iload_n hx hb dX1_changed_128 rfl (lv_at hl 4 rfl) ?_
                    refine lv_iadd hx hb dX1_changed_129 ?_
                    refine kv_topi (y := nI (a + b + 0)) (nI_add a b) ?_
                    refine lv_istore (lv' := [(5, .int (nI (a + b + 0))), (0, .ref g0), (1, .int (nI i)), (2, .int (nI a)), (3, .int (nI b)), (4, .int (nI u))]) hx hb dX1_changed_130 hl (by decide) rfl (fun ls hl => ?_)
                    suffices loop3 : ∀ (n k : Nat), k + n = (tM i - (a + b)) → ∀ (H : Heap) (locs : List Loc), va_P (dC, dI) vwCl (mW g0 gp gr gm gl gw gn cI pv nc tr tm tp mt wv nw (tr i) (a + tM u + k) (chN3 tp np i a b u (tM u) k) kk kn) H → va_D (fun q => q ∈ [g0, gp, gr, gm, gl, gw, gn]) (mW g0 gp gr gm gl gw gn cI pv nc tr tm tp mt wv nw (tr i) (a + tM u + k) (chN3 tp np i a b u (tM u) k) kk kn) → va_S (fun q => q ∈ [g0, gp, gr, gm, gl, gw, gn]) s.heap H locs → ∀ (ls : Array Slot), lv_has ls 6 [(5, .int (nI (a + b + k))), (0, .ref g0), (1, .int (nI i)), (2, .int (nI a)), (3, .int (nI b)), (4, .int (nI u))] → W p l e (headSpec wsZ1_changed ({ frames := 2, cells := 0, slots := 0, locals := 47 })).room s m ([.ref g0, .int (nI i), .int (nI a), .int (nI b), .int (nI u)] : List Value).toArray below meth c H locs 0 0 (MQ below (kQw (dC, dI) vwCl (some (.int (if fM_chOK tm mt (nI i) (nI a) (nI b) (nI u) = true then (if ((nI a).toNatClampNeg + (tm (nI u).toNatClampNeg).toNatClampNeg + ((tm (nI i).toNatClampNeg).toNatClampNeg - ((nI a).toNatClampNeg + (nI b).toNatClampNeg))) ≤ 10 then nbR (fnd (fQ tr tm tp (chN3 tp np ((nI i).toNatClampNeg) ((nI a).toNatClampNeg) ((nI b).toNatClampNeg) ((nI u).toNatClampNeg) (tm (nI u).toNatClampNeg).toNatClampNeg ((tm (nI i).toNatClampNeg).toNatClampNeg - ((nI a).toNatClampNeg + (nI b).toNatClampNeg))) (tr (nI i).toNatClampNeg) ((nI a).toNatClampNeg + (tm (nI u).toNatClampNeg).toNatClampNeg + ((tm (nI i).toNatClampNeg).toNatClampNeg - ((nI a).toNatClampNeg + (nI b).toNatClampNeg)))) mt 0) mt else (-1 : Int32)) else (-1 : Int32)))) (mW g0 gp gr gm gl gw gn cI pv nc (if fM_chOK tm mt (nI i) (nI a) (nI b) (nI u) = true then (if ((nI a).toNatClampNeg + (tm (nI u).toNatClampNeg).toNatClampNeg + ((tm (nI i).toNatClampNeg).toNatClampNeg - ((nI a).toNatClampNeg + (nI b).toNatClampNeg))) ≤ 10 then nbV (fnd (fQ tr tm tp (chN3 tp np ((nI i).toNatClampNeg) ((nI a).toNatClampNeg) ((nI b).toNatClampNeg) ((nI u).toNatClampNeg) (tm (nI u).toNatClampNeg).toNatClampNeg ((tm (nI i).toNatClampNeg).toNatClampNeg - ((nI a).toNatClampNeg + (nI b).toNatClampNeg))) (tr (nI i).toNatClampNeg) ((nI a).toNatClampNeg + (tm (nI u).toNatClampNeg).toNatClampNeg + ((tm (nI i).toNatClampNeg).toNatClampNeg - ((nI a).toNatClampNeg + (nI b).toNatClampNeg)))) mt 0) mt tr (upd tr mt (tr (nI i).toNatClampNeg)) else tr) else tr) (if fM_chOK tm mt (nI i) (nI a) (nI b) (nI u) = true then (if ((nI a).toNatClampNeg + (tm (nI u).toNatClampNeg).toNatClampNeg + ((tm (nI i).toNatClampNeg).toNatClampNeg - ((nI a).toNatClampNeg + (nI b).toNatClampNeg))) ≤ 10 then nbV (fnd (fQ tr tm tp (chN3 tp np ((nI i).toNatClampNeg) ((nI a).toNatClampNeg) ((nI b).toNatClampNeg) ((nI u).toNatClampNeg) (tm (nI u).toNatClampNeg).toNatClampNeg ((tm (nI i).toNatClampNeg).toNatClampNeg - ((nI a).toNatClampNeg + (nI b).toNatClampNeg))) (tr (nI i).toNatClampNeg) ((nI a).toNatClampNeg + (tm (nI u).toNatClampNeg).toNatClampNeg + ((tm (nI i).toNatClampNeg).toNatClampNeg - ((nI a).toNatClampNeg + (nI b).toNatClampNeg)))) mt 0) mt tm (upd tm mt (nI ((nI a).toNatClampNeg + (tm (nI u).toNatClampNeg).toNatClampNeg + ((tm (nI i).toNatClampNeg).toNatClampNeg - ((nI a).toNatClampNeg + (nI b).toNatClampNeg))))) else tm) else tm) (if fM_chOK tm mt (nI i) (nI a) (nI b) (nI u) = true then (if ((nI a).toNatClampNeg + (tm (nI u).toNatClampNeg).toNatClampNeg + ((tm (nI i).toNatClampNeg).toNatClampNeg - ((nI a).toNatClampNeg + (nI b).toNatClampNeg))) ≤ 10 then nbV (fnd (fQ tr tm tp (chN3 tp np ((nI i).toNatClampNeg) ((nI a).toNatClampNeg) ((nI b).toNatClampNeg) ((nI u).toNatClampNeg) (tm (nI u).toNatClampNeg).toNatClampNeg ((tm (nI i).toNatClampNeg).toNatClampNeg - ((nI a).toNatClampNeg + (nI b).toNatClampNeg))) (tr (nI i).toNatClampNeg) ((nI a).toNatClampNeg + (tm (nI u).toNatClampNeg).toNatClampNeg + ((tm (nI i).toNatClampNeg).toNatClampNeg - ((nI a).toNatClampNeg + (nI b).toNatClampNeg)))) mt 0) mt tp (tpC tp (chN3 tp np ((nI i).toNatClampNeg) ((nI a).toNatClampNeg) ((nI b).toNatClampNeg) ((nI u).toNatClampNeg) (tm (nI u).toNatClampNeg).toNatClampNeg ((tm (nI i).toNatClampNeg).toNatClampNeg - ((nI a).toNatClampNeg + (nI b).toNatClampNeg))) mt ((nI a).toNatClampNeg + (tm (nI u).toNatClampNeg).toNatClampNeg + ((tm (nI i).toNatClampNeg).toNatClampNeg - ((nI a).toNatClampNeg + (nI b).toNatClampNeg)))) else tp) else tp) (if fM_chOK tm mt (nI i) (nI a) (nI b) (nI u) = true then (if ((nI a).toNatClampNeg + (tm (nI u).toNatClampNeg).toNatClampNeg + ((tm (nI i).toNatClampNeg).toNatClampNeg - ((nI a).toNatClampNeg + (nI b).toNatClampNeg))) ≤ 10 then nbN (fnd (fQ tr tm tp (chN3 tp np ((nI i).toNatClampNeg) ((nI a).toNatClampNeg) ((nI b).toNatClampNeg) ((nI u).toNatClampNeg) (tm (nI u).toNatClampNeg).toNatClampNeg ((tm (nI i).toNatClampNeg).toNatClampNeg - ((nI a).toNatClampNeg + (nI b).toNatClampNeg))) (tr (nI i).toNatClampNeg) ((nI a).toNatClampNeg + (tm (nI u).toNatClampNeg).toNatClampNeg + ((tm (nI i).toNatClampNeg).toNatClampNeg - ((nI a).toNatClampNeg + (nI b).toNatClampNeg)))) mt 0) mt else mt) else mt) wv nw (if fM_chOK tm mt (nI i) (nI a) (nI b) (nI u) = true then (tr (nI i).toNatClampNeg) else re) (if fM_chOK tm mt (nI i) (nI a) (nI b) (nI u) = true then ((nI a).toNatClampNeg + (tm (nI u).toNatClampNeg).toNatClampNeg + ((tm (nI i).toNatClampNeg).toNatClampNeg - ((nI a).toNatClampNeg + (nI b).toNatClampNeg))) else nm) (if fM_chOK tm mt (nI i) (nI a) (nI b) (nI u) = true then (chN3 tp np ((nI i).toNatClampNeg) ((nI a).toNatClampNeg) ((nI b).toNatClampNeg) ((nI u).toNatClampNeg) (tm (nI u).toNatClampNeg).toNatClampNeg ((tm (nI i).toNatClampNeg).toNatClampNeg - ((nI a).toNatClampNeg + (nI b).toNatClampNeg))) else np) kk kn) [g0, gp, gr, gm, gl, gw, gn]) ([.ref g0, .int (nI i), .int (nI a), .int (nI b), .int (nI u)] : List Value).toArray s 0 0 (fun q => q ∈ [g0, gp, gr, gm, gl, gw, gn])) (F0 m 132 ls []) by
                      exact loop3 ((tM i - (a + b))) 0 (by omega) H locs hP hD hS ls (lv_sub hl [0, 1, 2, 3, 4, 5] rfl)
                    intro n
                    induction n with
                    | zero =>
                      intro k hk H locs hP hD hS ls hl
                      obtain rfl : (tM i - (a + b)) = k := by omega
                      refine lv_iload hx hb dX1_changed_132 (lv_at hl 0 rfl) ?_
                      refine lv_aload_n hx hb dX1_changed_134 rfl (lv_at hl 1 rfl) ?_
                      refine va_get (D := (dC, dI)) (ci := 1) (v := .ref gm) (C := RX1) (T := TX1) (N := 13) hx hb hts hin hown hK hP 0 rfl rfl 3 (by decide) (hts _ (List.mem_cons_of_mem _ tk_fl_16)) (fun _ h9 => h9) rfl dX1_changed_135 ?_
                      refine lv_iload_n hx hb dX1_changed_138 rfl (lv_at hl 2 rfl) ?_
                      refine va_iald hx hb hK hP 3 0 rfl rfl (vp_in_nI (by omega) (by decide)) dX1_changed_139 ?_
                      refine kv_topi (y := nI (tM i)) (by rw [nI_clamp (by omega), (hTM i hi).1]) ?_
                      refine lv_icmp_ge (tgt := 165) hx hb dX1_changed_140 (by decide) (fun c140 => ?_) (fun c140 => ?_)
                      · refine lv_aload_n hx hb dX1_changed_165 rfl (lv_at hl 1 rfl) ?_
                        refine kc_W [] [] ⟨hx, hb, hml, hown, hts⟩ (cM_madeType l dC dI g0 gp gr gm gl gw gn cI pv nc tr tm tp mt wv nw (tr i) (a + tM u + (tM i - (a + b))) (chN3 tp np i a b u (tM u) (tM i - (a + b))) kk kn hmt (by omega)) (cwV 0 hts gZ_changed_madeType rfl rfl rfl (by decide +kernel) ⟨(Nat.le_of_ble_eq_true rfl), (Nat.le_of_ble_eq_true rfl)⟩) hP hK hD hS rfl (ci := 1) (q0 := 0) rfl rfl rfl rfl hl.1 rfl (Nat.le_of_ble_eq_true rfl) dX1_changed_166 ⟨Nat.zero_le _, Nat.zero_le _⟩ (fun H locs hP1 hS hk1 => ?_)
                        have hP : va_P (dC, dI) vwCl (mW g0 gp gr gm gl gw gn cI pv nc (if (a + tM u + (tM i - (a + b))) ≤ 10 then nbV (fnd (fQ tr tm tp (chN3 tp np i a b u (tM u) (tM i - (a + b))) (tr i) (a + tM u + (tM i - (a + b)))) mt 0) mt tr (upd tr mt (tr i)) else tr) (if (a + tM u + (tM i - (a + b))) ≤ 10 then nbV (fnd (fQ tr tm tp (chN3 tp np i a b u (tM u) (tM i - (a + b))) (tr i) (a + tM u + (tM i - (a + b)))) mt 0) mt tm (upd tm mt (nI (a + tM u + (tM i - (a + b))))) else tm) (if (a + tM u + (tM i - (a + b))) ≤ 10 then nbV (fnd (fQ tr tm tp (chN3 tp np i a b u (tM u) (tM i - (a + b))) (tr i) (a + tM u + (tM i - (a + b)))) mt 0) mt tp (tpC tp (chN3 tp np i a b u (tM u) (tM i - (a + b))) mt (a + tM u + (tM i - (a + b)))) else tp) (if (a + tM u + (tM i - (a + b))) ≤ 10 then nbN (fnd (fQ tr tm tp (chN3 tp np i a b u (tM u) (tM i - (a + b))) (tr i) (a + tM u + (tM i - (a + b)))) mt 0) mt else mt) wv nw (tr i) (a + tM u + (tM i - (a + b))) (chN3 tp np i a b u (tM u) (tM i - (a + b))) kk kn) H := hP1
                        have hD : va_D _ (mW g0 gp gr gm gl gw gn cI pv nc (if (a + tM u + (tM i - (a + b))) ≤ 10 then nbV (fnd (fQ tr tm tp (chN3 tp np i a b u (tM u) (tM i - (a + b))) (tr i) (a + tM u + (tM i - (a + b)))) mt 0) mt tr (upd tr mt (tr i)) else tr) (if (a + tM u + (tM i - (a + b))) ≤ 10 then nbV (fnd (fQ tr tm tp (chN3 tp np i a b u (tM u) (tM i - (a + b))) (tr i) (a + tM u + (tM i - (a + b)))) mt 0) mt tm (upd tm mt (nI (a + tM u + (tM i - (a + b))))) else tm) (if (a + tM u + (tM i - (a + b))) ≤ 10 then nbV (fnd (fQ tr tm tp (chN3 tp np i a b u (tM u) (tM i - (a + b))) (tr i) (a + tM u + (tM i - (a + b)))) mt 0) mt tp (tpC tp (chN3 tp np i a b u (tM u) (tM i - (a + b))) mt (a + tM u + (tM i - (a + b)))) else tp) (if (a + tM u + (tM i - (a + b))) ≤ 10 then nbN (fnd (fQ tr tm tp (chN3 tp np i a b u (tM u) (tM i - (a + b))) (tr i) (a + tM u + (tM i - (a + b)))) mt 0) mt else mt) wv nw (tr i) (a + tM u + (tM i - (a + b))) (chN3 tp np i a b u (tM u) (tM i - (a + b))) kk kn) := kD_same hD rfl
                        exact W.iret hx hb hr (fun t ht hW => ⟨by rw [if_pos hok]; simp only [hci, hca, hcb, hcu, (hTM i hi).1, (hTM u hu).1, hcmi, hcmu] <;> rfl, by rw [ht]; simp only [if_pos hok, hci, hca, hcb, hcu, (hTM i hi).1, (hTM u hu).1, hcmi, hcmu]; exact hP, hS.F ht⟩) hS.2.2 dX1_changed_169
                      · exact absurd (nI_le (by omega) (by omega)) c140
                    | succ n ih =>
                      intro k hk H locs hP hD hS ls hl
                      refine lv_iload hx hb dX1_changed_132 (lv_at hl 0 rfl) ?_
                      refine lv_aload_n hx hb dX1_changed_134 rfl (lv_at hl 1 rfl) ?_
                      refine va_get (D := (dC, dI)) (ci := 1) (v := .ref gm) (C := RX1) (T := TX1) (N := 13) hx hb hts hin hown hK hP 0 rfl rfl 3 (by decide) (hts _ (List.mem_cons_of_mem _ tk_fl_16)) (fun _ h9 => h9) rfl dX1_changed_135 ?_
                      refine lv_iload_n hx hb dX1_changed_138 rfl (lv_at hl 2 rfl) ?_
                      refine va_iald hx hb hK hP 3 0 rfl rfl (vp_in_nI (by omega) (by decide)) dX1_changed_139 ?_
                      refine kv_topi (y := nI (tM i)) (by rw [nI_clamp (by omega), (hTM i hi).1]) ?_
                      refine lv_icmp_ge (tgt := 165) hx hb dX1_changed_140 (by decide) (fun c140 => ?_) (fun c140 => ?_)
                      · exact absurd ((nI_leI (by omega) (by omega)).mp c140) (by omega)
                      · refine lv_aload_n hx hb dX1_changed_143 rfl (lv_at hl 1 rfl) ?_
                        refine lv_aload_n hx hb dX1_changed_144 rfl (lv_at hl 1 rfl) ?_
                        refine va_get (D := (dC, dI)) (ci := 1) (v := .ref gl) (C := RX1) (T := TX1) (N := 13) hx hb hts hin hown hK hP 0 rfl rfl 4 (by decide) (hts _ (List.mem_cons_of_mem _ tk_fl_19)) (fun _ h9 => h9) rfl dX1_changed_145 ?_
                        refine lv_bipush (v := 10) hx hb dX1_changed_148 (by decide) ?_
                        refine lv_iload_n hx hb dX1_changed_150 rfl (lv_at hl 2 rfl) ?_
                        refine lv_imul hx hb dX1_changed_151 ?_
                        refine lv_iload hx hb dX1_changed_152 (lv_at hl 0 rfl) ?_
                        refine lv_iadd hx hb dX1_changed_154 ?_
                        refine kv_topi (y := nI (10 * i + (a + b + k))) ix10 ?_
                        refine va_iald hx hb hK hP 4 0 rfl rfl (vp_in_nI (by omega) (by decide)) dX1_changed_155 ?_
                        refine kv_topi (y := tp (10 * i + (a + b + k))) (by rw [nI_clamp (by omega)]) ?_
                        refine kc_W [.int (tp (10 * i + (a + b + k)))] [] ⟨hx, hb, hml, hown, hts⟩ (cM_add l dC dI g0 gp gr gm gl gw gn cI pv nc tr tm tp mt wv nw (tr i) (a + tM u + k) (chN3 tp np i a b u (tM u) k) kk kn (tp (10 * i + (a + b + k))) (by omega)) (cwV 1 hts gZ_changed_add rfl rfl rfl (by decide +kernel) ⟨(Nat.le_of_ble_eq_true rfl), (Nat.le_of_ble_eq_true rfl)⟩) hP hK hD hS rfl (ci := 1) (q0 := 0) rfl rfl rfl rfl hl.1 rfl (Nat.le_of_ble_eq_true rfl) dX1_changed_156 ⟨Nat.zero_le _, Nat.zero_le _⟩ (fun H locs hP1 hS hk1 => ?_)
                        have hP : va_P (dC, dI) vwCl (mW g0 gp gr gm gl gw gn cI pv nc tr tm tp mt wv nw (tr i) ((a + tM u + k) + 1) (upd (chN3 tp np i a b u (tM u) k) (a + tM u + k) (tp (10 * i + (a + b + k)))) kk kn) H := hP1
                        have hD : va_D _ (mW g0 gp gr gm gl gw gn cI pv nc tr tm tp mt wv nw (tr i) ((a + tM u + k) + 1) (upd (chN3 tp np i a b u (tM u) k) (a + tM u + k) (tp (10 * i + (a + b + k)))) kk kn) := kD_same hD rfl
                        refine lv_iinc (v := nI (a + b + k + 1)) (lv' := [(5, .int (nI (a + b + k + 1))), (0, .ref g0), (1, .int (nI i)), (2, .int (nI a)), (3, .int (nI b)), (4, .int (nI u))]) hx hb dX1_changed_159 hl (k := 0) rfl (nI_1 _) (by decide) rfl (fun ls hl => ?_)
                        refine lv_goto (tgt := 132) hx hb dX1_changed_162 (by decide) ?_
                        exact ih (k + 1) (by omega) _ _ hP hD hS ls (lv_sub hl [0, 1, 2, 3, 4, 5] rfl)
                  · exact absurd (nI_le (by omega) (by omega)) c101
                | succ n ih =>
                  intro k hk H locs hP hD hS ls hl
                  refine lv_iload hx hb dX1_changed_92 (lv_at hl 0 rfl) ?_
                  refine lv_aload_n hx hb dX1_changed_94 rfl (lv_at hl 1 rfl) ?_
                  refine va_get (D := (dC, dI)) (ci := 1) (v := .ref gm) (C := RX1) (T := TX1) (N := 13) hx hb hts hin hown hK hP 0 rfl rfl 3 (by decide) (hts _ (List.mem_cons_of_mem _ tk_fl_16)) (fun _ h9 => h9) rfl dX1_changed_95 ?_
                  refine lv_iload hx hb dX1_changed_98 (lv_at hl 5 rfl) ?_
                  refine va_iald hx hb hK hP 3 0 rfl rfl (vp_in_nI (by omega) (by decide)) dX1_changed_100 ?_
                  refine kv_topi (y := nI (tM u)) (by rw [nI_clamp (by omega), (hTM u hu).1]) ?_
                  refine lv_icmp_ge (tgt := 127) hx hb dX1_changed_101 (by decide) (fun c101 => ?_) (fun c101 => ?_)
                  · exact absurd ((nI_leI (by omega) (by omega)).mp c101) (by omega)
                  · refine lv_aload_n hx hb dX1_changed_104 rfl (lv_at hl 1 rfl) ?_
                    refine lv_aload_n hx hb dX1_changed_105 rfl (lv_at hl 1 rfl) ?_
                    refine va_get (D := (dC, dI)) (ci := 1) (v := .ref gl) (C := RX1) (T := TX1) (N := 13) hx hb hts hin hown hK hP 0 rfl rfl 4 (by decide) (hts _ (List.mem_cons_of_mem _ tk_fl_19)) (fun _ h9 => h9) rfl dX1_changed_106 ?_
                    refine lv_bipush (v := 10) hx hb dX1_changed_109 (by decide) ?_
                    refine lv_iload hx hb dX1_changed_111 (lv_at hl 5 rfl) ?_
                    refine lv_imul hx hb dX1_changed_113 ?_
                    refine lv_iload hx hb dX1_changed_114 (lv_at hl 0 rfl) ?_
                    refine lv_iadd hx hb dX1_changed_116 ?_
                    refine kv_topi (y := nI (10 * u + k)) ix10 ?_
                    refine va_iald hx hb hK hP 4 0 rfl rfl (vp_in_nI (by omega) (by decide)) dX1_changed_117 ?_
                    refine kv_topi (y := tp (10 * u + k)) (by rw [nI_clamp (by omega)]) ?_
                    refine kc_W [.int (tp (10 * u + k))] [] ⟨hx, hb, hml, hown, hts⟩ (cM_add l dC dI g0 gp gr gm gl gw gn cI pv nc tr tm tp mt wv nw (tr i) (a + k) (chN2 tp np i a u k) kk kn (tp (10 * u + k)) (by omega)) (cwV 1 hts gZ_changed_add rfl rfl rfl (by decide +kernel) ⟨(Nat.le_of_ble_eq_true rfl), (Nat.le_of_ble_eq_true rfl)⟩) hP hK hD hS rfl (ci := 1) (q0 := 0) rfl rfl rfl rfl hl.1 rfl (Nat.le_of_ble_eq_true rfl) dX1_changed_118 ⟨Nat.zero_le _, Nat.zero_le _⟩ (fun H locs hP1 hS hk1 => ?_)
                    have hP : va_P (dC, dI) vwCl (mW g0 gp gr gm gl gw gn cI pv nc tr tm tp mt wv nw (tr i) ((a + k) + 1) (upd (chN2 tp np i a u k) (a + k) (tp (10 * u + k))) kk kn) H := hP1
                    have hD : va_D _ (mW g0 gp gr gm gl gw gn cI pv nc tr tm tp mt wv nw (tr i) ((a + k) + 1) (upd (chN2 tp np i a u k) (a + k) (tp (10 * u + k))) kk kn) := kD_same hD rfl
                    refine lv_iinc (v := nI (k + 1)) (lv' := [(5, .int (nI (k + 1))), (0, .ref g0), (1, .int (nI i)), (2, .int (nI a)), (3, .int (nI b)), (4, .int (nI u))]) hx hb dX1_changed_121 hl (k := 0) rfl (nI_1 _) (by decide) rfl (fun ls hl => ?_)
                    refine lv_goto (tgt := 92) hx hb dX1_changed_124 (by decide) ?_
                    exact ih (k + 1) (by omega) _ _ hP hD hS ls (lv_sub hl [0, 1, 2, 3, 4, 5] rfl)
              · exact absurd (nI_le (by omega) (by omega)) c64
            | succ n ih =>
              intro k hk H locs hP hD hS ls hl
              refine lv_iload hx hb dX1_changed_61 (lv_at hl 0 rfl) ?_
              refine lv_iload_n hx hb dX1_changed_63 rfl (lv_at hl 3 rfl) ?_
              refine lv_icmp_ge (tgt := 89) hx hb dX1_changed_64 (by decide) (fun c64 => ?_) (fun c64 => ?_)
              · exact absurd ((nI_leI (by omega) (by omega)).mp c64) (by omega)
              · refine lv_aload_n hx hb dX1_changed_67 rfl (lv_at hl 1 rfl) ?_
                refine lv_aload_n hx hb dX1_changed_68 rfl (lv_at hl 1 rfl) ?_
                refine va_get (D := (dC, dI)) (ci := 1) (v := .ref gl) (C := RX1) (T := TX1) (N := 13) hx hb hts hin hown hK hP 0 rfl rfl 4 (by decide) (hts _ (List.mem_cons_of_mem _ tk_fl_19)) (fun _ h9 => h9) rfl dX1_changed_69 ?_
                refine lv_bipush (v := 10) hx hb dX1_changed_72 (by decide) ?_
                refine lv_iload_n hx hb dX1_changed_74 rfl (lv_at hl 2 rfl) ?_
                refine lv_imul hx hb dX1_changed_75 ?_
                refine lv_iload hx hb dX1_changed_76 (lv_at hl 0 rfl) ?_
                refine lv_iadd hx hb dX1_changed_78 ?_
                refine kv_topi (y := nI (10 * i + k)) ix10 ?_
                refine va_iald hx hb hK hP 4 0 rfl rfl (vp_in_nI (by omega) (by decide)) dX1_changed_79 ?_
                refine kv_topi (y := tp (10 * i + k)) (by rw [nI_clamp (by omega)]) ?_
                refine kc_W [.int (tp (10 * i + k))] [] ⟨hx, hb, hml, hown, hts⟩ (cM_add l dC dI g0 gp gr gm gl gw gn cI pv nc tr tm tp mt wv nw (tr i) k (chN1 tp np i k) kk kn (tp (10 * i + k)) (by omega)) (cwV 1 hts gZ_changed_add rfl rfl rfl (by decide +kernel) ⟨(Nat.le_of_ble_eq_true rfl), (Nat.le_of_ble_eq_true rfl)⟩) hP hK hD hS rfl (ci := 1) (q0 := 0) rfl rfl rfl rfl hl.1 rfl (Nat.le_of_ble_eq_true rfl) dX1_changed_80 ⟨Nat.zero_le _, Nat.zero_le _⟩ (fun H locs hP1 hS hk1 => ?_)
                have hP : va_P (dC, dI) vwCl (mW g0 gp gr gm gl gw gn cI pv nc tr tm tp mt wv nw (tr i) (k + 1) (upd (chN1 tp np i k) k (tp (10 * i + k))) kk kn) H := hP1
                have hD : va_D _ (mW g0 gp gr gm gl gw gn cI pv nc tr tm tp mt wv nw (tr i) (k + 1) (upd (chN1 tp np i k) k (tp (10 * i + k))) kk kn) := kD_same hD rfl
                refine lv_iinc (v := nI (k + 1)) (lv' := [(5, .int (nI (k + 1))), (0, .ref g0), (1, .int (nI i)), (2, .int (nI a)), (3, .int (nI b)), (4, .int (nI u))]) hx hb dX1_changed_83 hl (k := 0) rfl (nI_1 _) (by decide) rfl (fun ls hl => ?_)
                refine lv_goto (tgt := 61) hx hb dX1_changed_86 (by decide) ?_
                exact ih (k + 1) (by omega) _ _ hP hD hS ls (lv_sub hl [0, 1, 2, 3, 4, 5] rfl)
          · refine lv_iconst (v := -1) hx hb dX1_changed_41 (by decide) ?_
            exact W.iret hx hb hr (fun t ht hW => ⟨by rw [if_neg (show ¬ fM_chOK tm mt (nI i) (nI a) (nI b) (nI u) = true from (by rw [fM_chOK, if_neg c5, if_neg c14, if_neg c18, if_neg c22, nI_clamp (by omega), (hTM i hi).1, if_neg c38]; decide))] <;> rfl, by rw [ht]; simp only [if_neg (show ¬ fM_chOK tm mt (nI i) (nI a) (nI b) (nI u) = true from (by rw [fM_chOK, if_neg c5, if_neg c14, if_neg c18, if_neg c22, nI_clamp (by omega), (hTM i hi).1, if_neg c38]; decide))]; exact hP, hS.F ht⟩) hS.2.2 dX1_changed_42
