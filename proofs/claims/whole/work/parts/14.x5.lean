set_option maxHeartbeats 4000000 in
set_option maxRecDepth 100000 in
theorem cX_numberOf (l : Launch) (dC : Nat → ClassId) (dI : Nat → Nat → Nat) (h0 qa qr qt : Nat) (cI cJ : ClassId) (av : Nat → Int32) (nk : Nat) (rv : Nat → Int32) (nr : Nat) (tv : Nat → Int64) (nt : Nat) (pk : Int32) (pn : Int64) (x1 : Int64) (hnt : nt ≤ 300) : Met l yX0_numberOf wsX0_numberOf ({ frames := 0, cells := 0, slots := 0, locals := 0 }) (kPw (dC, dI) vwCl [(cI, .int), (cJ, .long)] (xW h0 qa qr qt cI cJ av nk rv nr tv nt pk pn) [.ref h0, .long x1]) (kQw (dC, dI) vwCl (some (.int (nbR (fnd (fun zz => decide (tv zz = x1)) nt 0) nt))) (xW h0 qa qr qt cI cJ av nk rv nr (nbV (fnd (fun zz => decide (tv zz = x1)) nt 0) nt tv (vp_updL tv nt x1)) (nbN (fnd (fun zz => decide (tv zz = x1)) nt 0) nt) pk pn) [h0, qa, qr, qt]) 0 0 (fun q => q ∈ [h0, qa, qr, qt]) := by
  refine Met.ofW (cc := cX0_numberOf) (maxL := 4) (ret := (some .int)) (by decide) rfl ?_
  intro p e s m args below meth c s₁ B hml hv
  obtain ⟨rfl, hP, hK, hD0⟩ := hv
  have hx := B.exec
  have hb := B.bytes
  have hr := B.returns
  have hts := atoms_spec (ws := wsX0_numberOf) B.pre
  have hown : s.vm.findClass RX0 = some m.cls := findClass_of_methodNamed B.named
  have hlocks := B.notSynchronized
  have hin : ∀ w ∈ u_ws RX0 TX0 8, w ∈ wsX0_numberOf := by decide +kernel
  have hD : va_D (fun q => q ∈ [h0, qa, qr, qt]) (xW h0 qa qr qt cI cJ av nk rv nr tv nt pk pn) := kD_self hD0 rfl
  have hS : va_S (fun q => q ∈ [h0, qa, qr, qt]) s.heap s.heap [] := va_S.rf
  have hl := lv_entry ([.ref h0, .long x1]) (n := 4) (Nat.le_of_ble_eq_true rfl)
  rw [lg_entry_eq]
  generalize (lg_sl ([.ref h0, .long x1]) ++ List.replicate (4 - (lg_sl ([.ref h0, .long x1])).length) Slot.unset).toArray = ls at hl ⊢
  have hl : lv_has ls 4 [(0, .ref h0), (1, .long x1)] := hl
  refine lv_iconst (v := 0) hx hb dX0_numberOf_0 (by decide) ?_
  refine lv_istore_n (lv' := [(3, .int 0), (0, .ref h0), (1, .long x1)]) hx hb dX0_numberOf_1 rfl hl (by decide) rfl (fun ls hl => ?_)
  suffices loop : ∀ (n k : Nat), k + n = nt → fnd (fun i => decide (tv i = x1)) n k = (fnd (fun i => decide (tv i = x1)) nt 0) → ∀ (ls : Array Slot), lv_has ls 4 [(3, .int (nI k)), (0, .ref h0), (1, .long x1)] → W p l e (headSpec wsX0_numberOf ({ frames := 0, cells := 0, slots := 0, locals := 0 })).room s m ([.ref h0, .long x1] : List Value).toArray below meth c s.heap [] 0 0 (MQ below (kQw (dC, dI) vwCl (some (.int (nbR (fnd (fun zz => decide (tv zz = x1)) nt 0) nt))) (xW h0 qa qr qt cI cJ av nk rv nr (nbV (fnd (fun zz => decide (tv zz = x1)) nt 0) nt tv (vp_updL tv nt x1)) (nbN (fnd (fun zz => decide (tv zz = x1)) nt 0) nt) pk pn) [h0, qa, qr, qt]) ([.ref h0, .long x1] : List Value).toArray s 0 0 (fun q => q ∈ [h0, qa, qr, qt])) (F0 m 2 ls []) by
    exact loop nt 0 (by omega) rfl ls (lv_sub hl [0, 1, 2] rfl)
  intro n
  induction n with
  | zero =>
    intro k hk he ls hl
    have ho : (fnd (fun i => decide (tv i = x1)) nt 0) = none := he.symm
    refine lv_iload_n hx hb dX0_numberOf_2 rfl (lv_at hl 0 rfl) ?_
    refine lv_aload_n hx hb dX0_numberOf_3 rfl (lv_at hl 1 rfl) ?_
    refine va_get (D := (dC, dI)) (ci := 0) (v := .int (nI nt)) (C := RX0) (T := TX0) (N := 8) hx hb hts hin hown hK hP 0 rfl rfl 5 (by decide) (hts (.fieldLink RX0 31 "KindTable" "typeCount" "I") (by decide +kernel)) (fun _ h9 => h9) rfl dX0_numberOf_4 ?_
    refine lv_icmp_ge (tgt := 29) hx hb dX0_numberOf_7 (by decide) (fun c7 => ?_) (fun c7 => ?_)
    · refine lv_aload_n hx hb dX0_numberOf_29 rfl (lv_at hl 1 rfl) ?_
      refine va_get (D := (dC, dI)) (ci := 0) (v := .int (nI nt)) (C := RX0) (T := TX0) (N := 8) hx hb hts hin hown hK hP 0 rfl rfl 5 (by decide) (hts (.fieldLink RX0 31 "KindTable" "typeCount" "I") (by decide +kernel)) (fun _ h9 => h9) rfl dX0_numberOf_30 ?_
      refine lv_sipush (v := 300) hx hb dX0_numberOf_33 (by decide) ?_
      refine lv_icmp_lt (tgt := 41) hx hb dX0_numberOf_36 (by decide) (fun c36 => ?_) (fun c36 => ?_)
      · refine lv_aload_n hx hb dX0_numberOf_41 rfl (lv_at hl 1 rfl) ?_
        refine va_get (D := (dC, dI)) (ci := 0) (v := .ref qt) (C := RX0) (T := TX0) (N := 8) hx hb hts hin hown hK hP 0 rfl rfl 4 (by decide) (hts (.fieldLink RX0 27 "KindTable" "types" "[J") (by decide +kernel)) (fun _ h9 => h9) rfl dX0_numberOf_42 ?_
        refine lv_aload_n hx hb dX0_numberOf_45 rfl (lv_at hl 1 rfl) ?_
        refine va_get (D := (dC, dI)) (ci := 0) (v := .int (nI nt)) (C := RX0) (T := TX0) (N := 8) hx hb hts hin hown hK hP 0 rfl rfl 5 (by decide) (hts (.fieldLink RX0 31 "KindTable" "typeCount" "I") (by decide +kernel)) (fun _ h9 => h9) rfl dX0_numberOf_46 ?_
        refine lv_lload_n hx hb dX0_numberOf_49 rfl (lv_at hl 2 rfl) ?_
        refine va_last hx hb hK hP hD hS 3 1 rfl rfl (vp_in_nI (knt_room hnt c36) (by decide)) dX0_numberOf_50 (fun H locs hP hD hS => ?_)
        have e_as : vp_updL tv (nI nt).toNatClampNeg x1 = vp_updL tv nt x1 := by rw [nI_clamp (by omega)]
        have hP : va_P (dC, dI) vwCl (xW h0 qa qr qt cI cJ av nk rv nr (vp_updL tv nt x1) nt pk pn) H := by rw [← e_as]; exact hP
        have hD : va_D (fun q => q ∈ [h0, qa, qr, qt]) (xW h0 qa qr qt cI cJ av nk rv nr (vp_updL tv nt x1) nt pk pn) := by rw [← e_as]; exact hD
        refine lv_aload_n hx hb dX0_numberOf_51 rfl (lv_at hl 1 rfl) ?_
        refine lv_dup hx hb dX0_numberOf_52 rfl ?_
        refine va_get (D := (dC, dI)) (ci := 0) (v := .int (nI nt)) (C := RX0) (T := TX0) (N := 8) hx hb hts hin hown hK hP 0 rfl rfl 5 (by decide) (hts (.fieldLink RX0 31 "KindTable" "typeCount" "I") (by decide +kernel)) (fun _ h9 => h9) rfl dX0_numberOf_53 ?_
        refine lv_iconst (v := 1) hx hb dX0_numberOf_56 (by decide) ?_
        refine lv_iadd hx hb dX0_numberOf_57 ?_
        refine kv_topi (y := nI (nt + 1)) (nI_1 nt) ?_
        refine va_put (D := (dC, dI)) (ci := 0) (v := .int (nI (nt + 1))) (ty := .int) (C := RX0) (T := TX0) (N := 8) hx hb hts hin tyX0 tyX0_ok nmX0 hown hK hP hD hS 0 rfl rfl 5 (by decide) (hts (.fieldLink RX0 31 "KindTable" "typeCount" "I") (by decide +kernel)) (fun _ h9 => h9) rfl (by decide +kernel) rfl rfl (Nat.le_of_ble_eq_true rfl) dX0_numberOf_58 (fun H locs hP hD hS => ?_)
        have hP : va_P (dC, dI) vwCl (xW h0 qa qr qt cI cJ av nk rv nr (vp_updL tv nt x1) (nt + 1) pk pn) H := hP
        have hD : va_D _ (xW h0 qa qr qt cI cJ av nk rv nr (vp_updL tv nt x1) (nt + 1) pk pn) := hD
        refine lv_aload_n hx hb dX0_numberOf_61 rfl (lv_at hl 1 rfl) ?_
        refine va_get (D := (dC, dI)) (ci := 0) (v := .int (nI (nt + 1))) (C := RX0) (T := TX0) (N := 8) hx hb hts hin hown hK hP 0 rfl rfl 5 (by decide) (hts (.fieldLink RX0 31 "KindTable" "typeCount" "I") (by decide +kernel)) (fun _ h9 => h9) rfl dX0_numberOf_62 ?_
        refine lv_iconst (v := 1) hx hb dX0_numberOf_65 (by decide) ?_
        refine lv_isub hx hb dX0_numberOf_66 ?_
        refine kv_topi (y := nI nt) (nI_pred nt) ?_
        exact W.iret hx hb hr (fun t ht hW => ⟨by rw [ho, nbR_n (Nat.ne_of_lt (knt_room hnt c36))] <;> rfl, by rw [ht, ho, nbN_n (Nat.ne_of_lt (knt_room hnt c36)), nbV_n (Nat.ne_of_lt (knt_room hnt c36))]; exact hP, hS.F ht⟩) hS.2.2 dX0_numberOf_67
      · refine lv_iconst (v := -1) hx hb dX0_numberOf_39 (by decide) ?_
        exact W.iret hx hb hr (fun t ht hW => ⟨by rw [ho, nbR_f (knt_full hnt c36)] <;> rfl, by rw [ht, ho, nbN_f (knt_full hnt c36), nbV_f (knt_full hnt c36)]; exact hP, hS.F ht⟩) hS.2.2 dX0_numberOf_40
    · exact absurd (nI_le (by omega) (by omega)) c7
  | succ n ih =>
    intro k hk he ls hl
    refine lv_iload_n hx hb dX0_numberOf_2 rfl (lv_at hl 0 rfl) ?_
    refine lv_aload_n hx hb dX0_numberOf_3 rfl (lv_at hl 1 rfl) ?_
    refine va_get (D := (dC, dI)) (ci := 0) (v := .int (nI nt)) (C := RX0) (T := TX0) (N := 8) hx hb hts hin hown hK hP 0 rfl rfl 5 (by decide) (hts (.fieldLink RX0 31 "KindTable" "typeCount" "I") (by decide +kernel)) (fun _ h9 => h9) rfl dX0_numberOf_4 ?_
    refine lv_icmp_ge (tgt := 29) hx hb dX0_numberOf_7 (by decide) (fun c7 => ?_) (fun c7 => ?_)
    · exact absurd ((nI_leI (by omega) (by omega)).mp c7) (by omega)
    · refine lv_aload_n hx hb dX0_numberOf_10 rfl (lv_at hl 1 rfl) ?_
      refine va_get (D := (dC, dI)) (ci := 0) (v := .ref qt) (C := RX0) (T := TX0) (N := 8) hx hb hts hin hown hK hP 0 rfl rfl 4 (by decide) (hts (.fieldLink RX0 27 "KindTable" "types" "[J") (by decide +kernel)) (fun _ h9 => h9) rfl dX0_numberOf_11 ?_
      refine lv_iload_n hx hb dX0_numberOf_14 rfl (lv_at hl 0 rfl) ?_
      refine va_lald hx hb hK hP 3 1 rfl rfl (vp_in_nI (by omega) (by decide)) dX0_numberOf_15 ?_
      refine kv_topl (y := tv k) (by rw [nI_clamp (by omega)]) ?_
      refine lv_lload_n hx hb dX0_numberOf_16 rfl (lv_at hl 2 rfl) ?_
      refine W.lcmp hx hb dX0_numberOf_17 ?_
      refine lv_if_ne (tgt := 23) hx hb dX0_numberOf_18 (by decide) (fun c18 => ?_) (fun c18 => ?_)
      · refine lv_iinc (v := nI (k + 1)) (lv' := [(3, .int (nI (k + 1))), (0, .ref h0), (1, .long x1)]) hx hb dX0_numberOf_23 hl (k := 0) rfl (nI_1 k) (by decide) rfl (fun ls hl => ?_)
        refine lv_goto (tgt := 2) hx hb dX0_numberOf_26 (by decide) ?_
        exact ih (k + 1) (by omega) (by rw [← he, fnd, if_neg (by rw [decide_eq_true_eq]; exact fun q => c18 (lgc0.mpr q))]) ls (lv_sub hl [0, 1, 2] rfl)
      · refine lv_iload_n hx hb dX0_numberOf_21 rfl (lv_at hl 0 rfl) ?_
        exact W.iret hx hb hr (fun t ht hW => ⟨by rw [← he, fnd, if_pos (decide_eq_true (lgc0.mp c18))] <;> rfl, by rw [ht, ← he, fnd, if_pos (decide_eq_true (lgc0.mp c18))]; exact hP, hS.F ht⟩) hS.2.2 dX0_numberOf_22
def fX_changed (tv : Nat → Int64) (nt : Nat) (x1 : Int32) (x2 : Int32) (x3 : Int32) (x4 : Int32) : Int32 × (Nat → Int64) × Nat := if (bI (fX_isType nt x1)) = 0 then ((-1 : Int32), tv, nt) else if (bI (fX_isType nt x4)) = 0 then ((-1 : Int32), tv, nt) else if x3 < 0 then ((-1 : Int32), tv, nt) else if (fX_placesOf (tv x1.toNatClampNeg)) < x3 then ((-1 : Int32), tv, nt) else if x2 < 0 then ((-1 : Int32), tv, nt) else if x2 ≤ ((fX_placesOf (tv x1.toNatClampNeg)) - x3) then if (((fX_placesOf (tv x1.toNatClampNeg)) - x3) + (fX_placesOf (tv x4.toNatClampNeg))) ≤ (10 : Int32) then (nbR (fnd (fun zz => decide (tv zz = wpI (wpI (wpI ((fX_resultOf (tv x1.toNatClampNeg)).toInt64) (tv x1.toNatClampNeg) (0 : Int32) x2) (tv x4.toNatClampNeg) (0 : Int32) (fX_placesOf (tv x4.toNatClampNeg))) (tv x1.toNatClampNeg) (x2 + x3) (fX_placesOf (tv x1.toNatClampNeg)))) nt 0) nt, (nbV (fnd (fun zz => decide (tv zz = wpI (wpI (wpI ((fX_resultOf (tv x1.toNatClampNeg)).toInt64) (tv x1.toNatClampNeg) (0 : Int32) x2) (tv x4.toNatClampNeg) (0 : Int32) (fX_placesOf (tv x4.toNatClampNeg))) (tv x1.toNatClampNeg) (x2 + x3) (fX_placesOf (tv x1.toNatClampNeg)))) nt 0) nt tv (vp_updL tv nt (wpI (wpI (wpI ((fX_resultOf (tv x1.toNatClampNeg)).toInt64) (tv x1.toNatClampNeg) (0 : Int32) x2) (tv x4.toNatClampNeg) (0 : Int32) (fX_placesOf (tv x4.toNatClampNeg))) (tv x1.toNatClampNeg) (x2 + x3) (fX_placesOf (tv x1.toNatClampNeg))))), (nbN (fnd (fun zz => decide (tv zz = wpI (wpI (wpI ((fX_resultOf (tv x1.toNatClampNeg)).toInt64) (tv x1.toNatClampNeg) (0 : Int32) x2) (tv x4.toNatClampNeg) (0 : Int32) (fX_placesOf (tv x4.toNatClampNeg))) (tv x1.toNatClampNeg) (x2 + x3) (fX_placesOf (tv x1.toNatClampNeg)))) nt 0) nt)) else ((-1 : Int32), tv, nt) else ((-1 : Int32), tv, nt)
set_option maxHeartbeats 4000000 in
set_option maxRecDepth 100000 in
theorem cX_changed (l : Launch) (dC : Nat → ClassId) (dI : Nat → Nat → Nat) (h0 qa qr qt : Nat) (cI cJ : ClassId) (av : Nat → Int32) (nk : Nat) (rv : Nat → Int32) (nr : Nat) (tv : Nat → Int64) (nt : Nat) (pk : Int32) (pn : Int64) (x1 : Int32) (x2 : Int32) (x3 : Int32) (x4 : Int32) (hnt : nt ≤ 300) : Met l yX0_changed wsX0_changed ({ frames := 3, cells := 0, slots := 0, locals := 71 }) (kPw (dC, dI) vwCl [(cI, .int), (cJ, .long)] (xW h0 qa qr qt cI cJ av nk rv nr tv nt pk pn) [.ref h0, .int x1, .int x2, .int x3, .int x4]) (kQw (dC, dI) vwCl (some (.int ((fX_changed tv nt x1 x2 x3 x4).1))) (xW h0 qa qr qt cI cJ av nk rv nr ((fX_changed tv nt x1 x2 x3 x4).2.1) ((fX_changed tv nt x1 x2 x3 x4).2.2) pk pn) [h0, qa, qr, qt]) 0 0 (fun q => q ∈ [h0, qa, qr, qt]) := by
  refine Met.ofW (cc := cX0_changed) (maxL := 12) (ret := (some .int)) (by decide) rfl ?_
  intro p e s m args below meth c s₁ B hml hv
  obtain ⟨rfl, hP, hK, hD0⟩ := hv
  have hx := B.exec
  have hb := B.bytes
  have hr := B.returns
  have hts := atoms_spec (ws := wsX0_changed) B.pre
  have hown : s.vm.findClass RX0 = some m.cls := findClass_of_methodNamed B.named
  have hlocks := B.notSynchronized
  have hin : ∀ w ∈ u_ws RX0 TX0 8, w ∈ wsX0_changed := by decide +kernel
  have hD : va_D (fun q => q ∈ [h0, qa, qr, qt]) (xW h0 qa qr qt cI cJ av nk rv nr tv nt pk pn) := kD_self hD0 rfl
  have hS : va_S (fun q => q ∈ [h0, qa, qr, qt]) s.heap s.heap [] := va_S.rf
  have hl := lv_entry ([.ref h0, .int x1, .int x2, .int x3, .int x4]) (n := 12) (Nat.le_of_ble_eq_true rfl)
  rw [lg_entry_eq]
  generalize (lg_sl ([.ref h0, .int x1, .int x2, .int x3, .int x4]) ++ List.replicate (12 - (lg_sl ([.ref h0, .int x1, .int x2, .int x3, .int x4])).length) Slot.unset).toArray = ls at hl ⊢
  have hl : lv_has ls 12 [(0, .ref h0), (1, .int x1), (2, .int x2), (3, .int x3), (4, .int x4)] := hl
  refine lv_aload_n hx hb dX0_changed_0 rfl (lv_at hl 0 rfl) ?_
  refine lv_iload_n hx hb dX0_changed_1 rfl (lv_at hl 1 rfl) ?_
  refine kc_R [.int x1] [] ⟨hx, hb, hml, hown, hts⟩ (cX_isType l dC dI h0 qa qr qt cI cJ av nk rv nr tv nt pk pn x1) (cwV 1 hts gX0_changed_X0_isType rfl rfl rfl (by decide +kernel) ⟨(Nat.le_of_ble_eq_true rfl), (Nat.le_of_ble_eq_true rfl)⟩) hP hK (ci := 0) (q0 := 0) rfl rfl rfl rfl hl.1 rfl (Nat.le_of_ble_eq_true rfl) dX0_changed_2 ⟨Nat.zero_le _, Nat.zero_le _⟩ ?_
  refine lv_if_eq (tgt := 17) hx hb dX0_changed_5 (by decide) (fun c5 => ?_) (fun c5 => ?_)
  · refine lv_iconst (v := -1) hx hb dX0_changed_17 (by decide) ?_
    exact W.iret hx hb hr (fun t ht hW => ⟨by rw [fX_changed, if_pos c5] <;> rfl, by rw [ht, fX_changed, if_pos c5]; exact hP, hS.F ht⟩) hS.2.2 dX0_changed_18
  · refine lv_aload_n hx hb dX0_changed_8 rfl (lv_at hl 0 rfl) ?_
    refine lv_iload hx hb dX0_changed_9 (lv_at hl 4 rfl) ?_
    refine kc_R [.int x4] [] ⟨hx, hb, hml, hown, hts⟩ (cX_isType l dC dI h0 qa qr qt cI cJ av nk rv nr tv nt pk pn x4) (cwV 1 hts gX0_changed_X0_isType rfl rfl rfl (by decide +kernel) ⟨(Nat.le_of_ble_eq_true rfl), (Nat.le_of_ble_eq_true rfl)⟩) hP hK (ci := 0) (q0 := 0) rfl rfl rfl rfl hl.1 rfl (Nat.le_of_ble_eq_true rfl) dX0_changed_11 ⟨Nat.zero_le _, Nat.zero_le _⟩ ?_
    refine lv_if_ne (tgt := 19) hx hb dX0_changed_14 (by decide) (fun c14 => ?_) (fun c14 => ?_)
    · refine lv_aload_n hx hb dX0_changed_19 rfl (lv_at hl 0 rfl) ?_
      refine va_get (D := (dC, dI)) (ci := 0) (v := .ref qt) (C := RX0) (T := TX0) (N := 8) hx hb hts hin hown hK hP 0 rfl rfl 4 (by decide) (hts (.fieldLink RX0 27 "KindTable" "types" "[J") (by decide +kernel)) (fun _ h9 => h9) rfl dX0_changed_20 ?_
      refine lv_iload_n hx hb dX0_changed_23 rfl (lv_at hl 1 rfl) ?_
      refine va_lald hx hb hK hP 3 1 rfl rfl (vp_in_mono (kT_in hnt c5) hnt) dX0_changed_24 ?_
      refine lv_lstore (lv' := [(5, .long (tv x1.toNatClampNeg)), (0, .ref h0), (1, .int x1), (2, .int x2), (3, .int x3), (4, .int x4)]) hx hb dX0_changed_25 hl (by decide) rfl (fun ls hl => ?_)
      refine lv_aload_n hx hb dX0_changed_27 rfl (lv_at hl 1 rfl) ?_
      refine va_get (D := (dC, dI)) (ci := 0) (v := .ref qt) (C := RX0) (T := TX0) (N := 8) hx hb hts hin hown hK hP 0 rfl rfl 4 (by decide) (hts (.fieldLink RX0 27 "KindTable" "types" "[J") (by decide +kernel)) (fun _ h9 => h9) rfl dX0_changed_28 ?_
      refine lv_iload hx hb dX0_changed_31 (lv_at hl 5 rfl) ?_
      refine va_lald hx hb hK hP 3 1 rfl rfl (vp_in_mono (kT_in hnt c14) hnt) dX0_changed_33 ?_
      refine lv_lstore (lv' := [(7, .long (tv x4.toNatClampNeg)), (5, .long (tv x1.toNatClampNeg)), (0, .ref h0), (1, .int x1), (2, .int x2), (3, .int x3), (4, .int x4)]) hx hb dX0_changed_34 hl (by decide) rfl (fun ls hl => ?_)
      refine lv_lload hx hb dX0_changed_36 (lv_at hl 1 rfl) ?_
      refine kc_S [.long (tv x1.toNatClampNeg)] [] ⟨hx, hb, hml, hown, hts⟩ (cX_placesOf l (tv x1.toNatClampNeg)) (cwS 1 hts gX0_changed_X0_placesOf rfl rfl rfl (by decide +kernel) ⟨(Nat.le_of_ble_eq_true rfl), (Nat.le_of_ble_eq_true rfl)⟩) rfl hl.1 rfl (Nat.le_of_ble_eq_true rfl) dX0_changed_38 ⟨Nat.zero_le _, Nat.zero_le _⟩ ?_
      refine lv_istore (lv' := [(9, .int (fX_placesOf (tv x1.toNatClampNeg))), (7, .long (tv x4.toNatClampNeg)), (5, .long (tv x1.toNatClampNeg)), (0, .ref h0), (1, .int x1), (2, .int x2), (3, .int x3), (4, .int x4)]) hx hb dX0_changed_41 hl (by decide) rfl (fun ls hl => ?_)
      refine lv_iload_n hx hb dX0_changed_43 rfl (lv_at hl 6 rfl) ?_
      refine lv_if_lt (tgt := 65) hx hb dX0_changed_44 (by decide) (fun c44 => ?_) (fun c44 => ?_)
      · refine lv_iconst (v := -1) hx hb dX0_changed_65 (by decide) ?_
        exact W.iret hx hb hr (fun t ht hW => ⟨by rw [fX_changed, if_neg c5, if_neg c14, if_pos c44] <;> rfl, by rw [ht, fX_changed, if_neg c5, if_neg c14, if_pos c44]; exact hP, hS.F ht⟩) hS.2.2 dX0_changed_66
      · refine lv_iload_n hx hb dX0_changed_47 rfl (lv_at hl 6 rfl) ?_
        refine lv_iload hx hb dX0_changed_48 (lv_at hl 0 rfl) ?_
        refine lv_icmp_gt (tgt := 65) hx hb dX0_changed_50 (by decide) (fun c50 => ?_) (fun c50 => ?_)
        · refine lv_iconst (v := -1) hx hb dX0_changed_65 (by decide) ?_
          exact W.iret hx hb hr (fun t ht hW => ⟨by rw [fX_changed, if_neg c5, if_neg c14, if_neg c44, if_pos c50] <;> rfl, by rw [ht, fX_changed, if_neg c5, if_neg c14, if_neg c44, if_pos c50]; exact hP, hS.F ht⟩) hS.2.2 dX0_changed_66
        · refine lv_iload_n hx hb dX0_changed_53 rfl (lv_at hl 5 rfl) ?_
          refine lv_if_lt (tgt := 65) hx hb dX0_changed_54 (by decide) (fun c54 => ?_) (fun c54 => ?_)
          · refine lv_iconst (v := -1) hx hb dX0_changed_65 (by decide) ?_
            exact W.iret hx hb hr (fun t ht hW => ⟨by rw [fX_changed, if_neg c5, if_neg c14, if_neg c44, if_neg c50, if_pos c54] <;> rfl, by rw [ht, fX_changed, if_neg c5, if_neg c14, if_neg c44, if_neg c50, if_pos c54]; exact hP, hS.F ht⟩) hS.2.2 dX0_changed_66
          · refine lv_iload_n hx hb dX0_changed_57 rfl (lv_at hl 5 rfl) ?_
            refine lv_iload hx hb dX0_changed_58 (lv_at hl 0 rfl) ?_
            refine lv_iload_n hx hb dX0_changed_60 rfl (lv_at hl 6 rfl) ?_
            refine lv_isub hx hb dX0_changed_61 ?_
            refine lv_icmp_le (tgt := 67) hx hb dX0_changed_62 (by decide) (fun c62 => ?_) (fun c62 => ?_)
            · refine lv_iload hx hb dX0_changed_67 (lv_at hl 0 rfl) ?_
              refine lv_iload_n hx hb dX0_changed_69 rfl (lv_at hl 6 rfl) ?_
              refine lv_isub hx hb dX0_changed_70 ?_
              refine lv_lload hx hb dX0_changed_71 (lv_at hl 1 rfl) ?_
              refine kc_S [.long (tv x4.toNatClampNeg)] [.int ((fX_placesOf (tv x1.toNatClampNeg)) - x3)] ⟨hx, hb, hml, hown, hts⟩ (cX_placesOf l (tv x4.toNatClampNeg)) (cwS 1 hts gX0_changed_X0_placesOf rfl rfl rfl (by decide +kernel) ⟨(Nat.le_of_ble_eq_true rfl), (Nat.le_of_ble_eq_true rfl)⟩) rfl hl.1 rfl (Nat.le_of_ble_eq_true rfl) dX0_changed_73 ⟨Nat.zero_le _, Nat.zero_le _⟩ ?_
              refine lv_iadd hx hb dX0_changed_76 ?_
              refine lv_bipush (v := 10) hx hb dX0_changed_77 (by decide) ?_
              refine lv_icmp_le (tgt := 84) hx hb dX0_changed_79 (by decide) (fun c79 => ?_) (fun c79 => ?_)
              · refine lv_lload hx hb dX0_changed_84 (lv_at hl 2 rfl) ?_
                refine kc_S [.long (tv x1.toNatClampNeg)] [] ⟨hx, hb, hml, hown, hts⟩ (cX_resultOf l (tv x1.toNatClampNeg)) (cwS 1 hts gX0_changed_X0_resultOf rfl rfl rfl (by decide +kernel) ⟨(Nat.le_of_ble_eq_true rfl), (Nat.le_of_ble_eq_true rfl)⟩) rfl hl.1 rfl (Nat.le_of_ble_eq_true rfl) dX0_changed_86 ⟨Nat.zero_le _, Nat.zero_le _⟩ ?_
                refine lv_i2l hx hb dX0_changed_89 rfl ?_
                refine lv_lstore (lv' := [(10, .long ((fX_resultOf (tv x1.toNatClampNeg)).toInt64)), (9, .int (fX_placesOf (tv x1.toNatClampNeg))), (7, .long (tv x4.toNatClampNeg)), (5, .long (tv x1.toNatClampNeg)), (0, .ref h0), (1, .int x1), (2, .int x2), (3, .int x3), (4, .int x4)]) hx hb dX0_changed_90 hl (by decide) rfl (fun ls hl => ?_)
                refine lv_lload hx hb dX0_changed_92 (lv_at hl 0 rfl) ?_
                refine lv_lload hx hb dX0_changed_94 (lv_at hl 3 rfl) ?_
                refine lv_iconst (v := 0) hx hb dX0_changed_96 (by decide) ?_
                refine lv_iload_n hx hb dX0_changed_97 rfl (lv_at hl 6 rfl) ?_
                refine kc_S [.long ((fX_resultOf (tv x1.toNatClampNeg)).toInt64), .long (tv x1.toNatClampNeg), .int 0, .int x2] [] ⟨hx, hb, hml, hown, hts⟩ (cX_withPlacesOf l ((fX_resultOf (tv x1.toNatClampNeg)).toInt64) (tv x1.toNatClampNeg) (0 : Int32) x2 (by decide) (k2_le c54)) (cwS 4 hts gX0_changed_X0_withPlacesOf rfl rfl rfl (by decide +kernel) ⟨(Nat.le_of_ble_eq_true rfl), (Nat.le_of_ble_eq_true rfl)⟩) rfl hl.1 rfl (Nat.le_of_ble_eq_true rfl) dX0_changed_98 ⟨Nat.zero_le _, Nat.zero_le _⟩ ?_
                refine lv_lstore (lv' := [(10, .long (wpI ((fX_resultOf (tv x1.toNatClampNeg)).toInt64) (tv x1.toNatClampNeg) (0 : Int32) x2)), (9, .int (fX_placesOf (tv x1.toNatClampNeg))), (7, .long (tv x4.toNatClampNeg)), (5, .long (tv x1.toNatClampNeg)), (0, .ref h0), (1, .int x1), (2, .int x2), (3, .int x3), (4, .int x4)]) hx hb dX0_changed_101 hl (by decide) rfl (fun ls hl => ?_)
                refine lv_lload hx hb dX0_changed_103 (lv_at hl 0 rfl) ?_
                refine lv_lload hx hb dX0_changed_105 (lv_at hl 2 rfl) ?_
                refine lv_iconst (v := 0) hx hb dX0_changed_107 (by decide) ?_
                refine lv_lload hx hb dX0_changed_108 (lv_at hl 2 rfl) ?_
                refine kc_S [.long (tv x4.toNatClampNeg)] [.int 0, .long (tv x4.toNatClampNeg), .long (wpI ((fX_resultOf (tv x1.toNatClampNeg)).toInt64) (tv x1.toNatClampNeg) (0 : Int32) x2)] ⟨hx, hb, hml, hown, hts⟩ (cX_placesOf l (tv x4.toNatClampNeg)) (cwS 1 hts gX0_changed_X0_placesOf rfl rfl rfl (by decide +kernel) ⟨(Nat.le_of_ble_eq_true rfl), (Nat.le_of_ble_eq_true rfl)⟩) rfl hl.1 rfl (Nat.le_of_ble_eq_true rfl) dX0_changed_110 ⟨Nat.zero_le _, Nat.zero_le _⟩ ?_
                refine kc_S [.long (wpI ((fX_resultOf (tv x1.toNatClampNeg)).toInt64) (tv x1.toNatClampNeg) (0 : Int32) x2), .long (tv x4.toNatClampNeg), .int 0, .int (fX_placesOf (tv x4.toNatClampNeg))] [] ⟨hx, hb, hml, hown, hts⟩ (cX_withPlacesOf l (wpI ((fX_resultOf (tv x1.toNatClampNeg)).toInt64) (tv x1.toNatClampNeg) (0 : Int32) x2) (tv x4.toNatClampNeg) (0 : Int32) (fX_placesOf (tv x4.toNatClampNeg)) (by decide) ((plo_in _).1)) (cwS 4 hts gX0_changed_X0_withPlacesOf rfl rfl rfl (by decide +kernel) ⟨(Nat.le_of_ble_eq_true rfl), (Nat.le_of_ble_eq_true rfl)⟩) rfl hl.1 rfl (Nat.le_of_ble_eq_true rfl) dX0_changed_113 ⟨Nat.zero_le _, Nat.zero_le _⟩ ?_
                refine lv_lstore (lv' := [(10, .long (wpI (wpI ((fX_resultOf (tv x1.toNatClampNeg)).toInt64) (tv x1.toNatClampNeg) (0 : Int32) x2) (tv x4.toNatClampNeg) (0 : Int32) (fX_placesOf (tv x4.toNatClampNeg)))), (9, .int (fX_placesOf (tv x1.toNatClampNeg))), (7, .long (tv x4.toNatClampNeg)), (5, .long (tv x1.toNatClampNeg)), (0, .ref h0), (1, .int x1), (2, .int x2), (3, .int x3), (4, .int x4)]) hx hb dX0_changed_116 hl (by decide) rfl (fun ls hl => ?_)
                refine lv_lload hx hb dX0_changed_118 (lv_at hl 0 rfl) ?_
                refine lv_lload hx hb dX0_changed_120 (lv_at hl 3 rfl) ?_
                refine lv_iload_n hx hb dX0_changed_122 rfl (lv_at hl 6 rfl) ?_
                refine lv_iload_n hx hb dX0_changed_123 rfl (lv_at hl 7 rfl) ?_
                refine lv_iadd hx hb dX0_changed_124 ?_
                refine lv_iload hx hb dX0_changed_125 (lv_at hl 1 rfl) ?_
                refine kc_S [.long (wpI (wpI ((fX_resultOf (tv x1.toNatClampNeg)).toInt64) (tv x1.toNatClampNeg) (0 : Int32) x2) (tv x4.toNatClampNeg) (0 : Int32) (fX_placesOf (tv x4.toNatClampNeg))), .long (tv x1.toNatClampNeg), .int (x2 + x3), .int (fX_placesOf (tv x1.toNatClampNeg))] [] ⟨hx, hb, hml, hown, hts⟩ (cX_withPlacesOf l (wpI (wpI ((fX_resultOf (tv x1.toNatClampNeg)).toInt64) (tv x1.toNatClampNeg) (0 : Int32) x2) (tv x4.toNatClampNeg) (0 : Int32) (fX_placesOf (tv x4.toNatClampNeg))) (tv x1.toNatClampNeg) (x2 + x3) (fX_placesOf (tv x1.toNatClampNeg)) ((chg_in c44 c50 c54 c62).1) ((chg_in c44 c50 c54 c62).2)) (cwS 4 hts gX0_changed_X0_withPlacesOf rfl rfl rfl (by decide +kernel) ⟨(Nat.le_of_ble_eq_true rfl), (Nat.le_of_ble_eq_true rfl)⟩) rfl hl.1 rfl (Nat.le_of_ble_eq_true rfl) dX0_changed_127 ⟨Nat.zero_le _, Nat.zero_le _⟩ ?_
                refine lv_lstore (lv' := [(10, .long (wpI (wpI (wpI ((fX_resultOf (tv x1.toNatClampNeg)).toInt64) (tv x1.toNatClampNeg) (0 : Int32) x2) (tv x4.toNatClampNeg) (0 : Int32) (fX_placesOf (tv x4.toNatClampNeg))) (tv x1.toNatClampNeg) (x2 + x3) (fX_placesOf (tv x1.toNatClampNeg)))), (9, .int (fX_placesOf (tv x1.toNatClampNeg))), (7, .long (tv x4.toNatClampNeg)), (5, .long (tv x1.toNatClampNeg)), (0, .ref h0), (1, .int x1), (2, .int x2), (3, .int x3), (4, .int x4)]) hx hb dX0_changed_130 hl (by decide) rfl (fun ls hl => ?_)
                refine lv_aload_n hx hb dX0_changed_132 rfl (lv_at hl 4 rfl) ?_
                refine lv_lload hx hb dX0_changed_133 (lv_at hl 0 rfl) ?_
                refine kc_W [.long (wpI (wpI (wpI ((fX_resultOf (tv x1.toNatClampNeg)).toInt64) (tv x1.toNatClampNeg) (0 : Int32) x2) (tv x4.toNatClampNeg) (0 : Int32) (fX_placesOf (tv x4.toNatClampNeg))) (tv x1.toNatClampNeg) (x2 + x3) (fX_placesOf (tv x1.toNatClampNeg)))] [] ⟨hx, hb, hml, hown, hts⟩ (cX_numberOf l dC dI h0 qa qr qt cI cJ av nk rv nr tv nt pk pn (wpI (wpI (wpI ((fX_resultOf (tv x1.toNatClampNeg)).toInt64) (tv x1.toNatClampNeg) (0 : Int32) x2) (tv x4.toNatClampNeg) (0 : Int32) (fX_placesOf (tv x4.toNatClampNeg))) (tv x1.toNatClampNeg) (x2 + x3) (fX_placesOf (tv x1.toNatClampNeg))) hnt) (cwV 1 hts gX0_changed_X0_numberOf rfl rfl rfl (by decide +kernel) ⟨(Nat.le_of_ble_eq_true rfl), (Nat.le_of_ble_eq_true rfl)⟩) hP hK hD hS rfl (ci := 0) (q0 := 0) rfl rfl rfl rfl hl.1 rfl (Nat.le_of_ble_eq_true rfl) dX0_changed_135 ⟨Nat.zero_le _, Nat.zero_le _⟩ (fun H locs hP1 hS hk1 => ?_)
                have hP : va_P (dC, dI) vwCl (xW h0 qa qr qt cI cJ av nk rv nr (nbV (fnd (fun zz => decide (tv zz = wpI (wpI (wpI ((fX_resultOf (tv x1.toNatClampNeg)).toInt64) (tv x1.toNatClampNeg) (0 : Int32) x2) (tv x4.toNatClampNeg) (0 : Int32) (fX_placesOf (tv x4.toNatClampNeg))) (tv x1.toNatClampNeg) (x2 + x3) (fX_placesOf (tv x1.toNatClampNeg)))) nt 0) nt tv (vp_updL tv nt (wpI (wpI (wpI ((fX_resultOf (tv x1.toNatClampNeg)).toInt64) (tv x1.toNatClampNeg) (0 : Int32) x2) (tv x4.toNatClampNeg) (0 : Int32) (fX_placesOf (tv x4.toNatClampNeg))) (tv x1.toNatClampNeg) (x2 + x3) (fX_placesOf (tv x1.toNatClampNeg))))) (nbN (fnd (fun zz => decide (tv zz = wpI (wpI (wpI ((fX_resultOf (tv x1.toNatClampNeg)).toInt64) (tv x1.toNatClampNeg) (0 : Int32) x2) (tv x4.toNatClampNeg) (0 : Int32) (fX_placesOf (tv x4.toNatClampNeg))) (tv x1.toNatClampNeg) (x2 + x3) (fX_placesOf (tv x1.toNatClampNeg)))) nt 0) nt) pk pn) H := hP1
                have hD : va_D _ (xW h0 qa qr qt cI cJ av nk rv nr (nbV (fnd (fun zz => decide (tv zz = wpI (wpI (wpI ((fX_resultOf (tv x1.toNatClampNeg)).toInt64) (tv x1.toNatClampNeg) (0 : Int32) x2) (tv x4.toNatClampNeg) (0 : Int32) (fX_placesOf (tv x4.toNatClampNeg))) (tv x1.toNatClampNeg) (x2 + x3) (fX_placesOf (tv x1.toNatClampNeg)))) nt 0) nt tv (vp_updL tv nt (wpI (wpI (wpI ((fX_resultOf (tv x1.toNatClampNeg)).toInt64) (tv x1.toNatClampNeg) (0 : Int32) x2) (tv x4.toNatClampNeg) (0 : Int32) (fX_placesOf (tv x4.toNatClampNeg))) (tv x1.toNatClampNeg) (x2 + x3) (fX_placesOf (tv x1.toNatClampNeg))))) (nbN (fnd (fun zz => decide (tv zz = wpI (wpI (wpI ((fX_resultOf (tv x1.toNatClampNeg)).toInt64) (tv x1.toNatClampNeg) (0 : Int32) x2) (tv x4.toNatClampNeg) (0 : Int32) (fX_placesOf (tv x4.toNatClampNeg))) (tv x1.toNatClampNeg) (x2 + x3) (fX_placesOf (tv x1.toNatClampNeg)))) nt 0) nt) pk pn) := kD_same hD rfl
                exact W.iret hx hb hr (fun t ht hW => ⟨by rw [fX_changed, if_neg c5, if_neg c14, if_neg c44, if_neg c50, if_neg c54, if_pos c62, if_pos c79] <;> rfl, by rw [ht, fX_changed, if_neg c5, if_neg c14, if_neg c44, if_neg c50, if_neg c54, if_pos c62, if_pos c79]; exact hP, hS.F ht⟩) hS.2.2 dX0_changed_138
              · refine lv_iconst (v := -1) hx hb dX0_changed_82 (by decide) ?_
                exact W.iret hx hb hr (fun t ht hW => ⟨by rw [fX_changed, if_neg c5, if_neg c14, if_neg c44, if_neg c50, if_neg c54, if_pos c62, if_neg c79] <;> rfl, by rw [ht, fX_changed, if_neg c5, if_neg c14, if_neg c44, if_neg c50, if_neg c54, if_pos c62, if_neg c79]; exact hP, hS.F ht⟩) hS.2.2 dX0_changed_83
            · refine lv_iconst (v := -1) hx hb dX0_changed_65 (by decide) ?_
              exact W.iret hx hb hr (fun t ht hW => ⟨by rw [fX_changed, if_neg c5, if_neg c14, if_neg c44, if_neg c50, if_neg c54, if_neg c62] <;> rfl, by rw [ht, fX_changed, if_neg c5, if_neg c14, if_neg c44, if_neg c50, if_neg c54, if_neg c62]; exact hP, hS.F ht⟩) hS.2.2 dX0_changed_66
    · refine lv_iconst (v := -1) hx hb dX0_changed_17 (by decide) ?_
      exact W.iret hx hb hr (fun t ht hW => ⟨by rw [fX_changed, if_neg c5, if_pos c14] <;> rfl, by rw [ht, fX_changed, if_neg c5, if_pos c14]; exact hP, hS.F ht⟩) hS.2.2 dX0_changed_18
def tyb (rv : Nat → Int32) (a : Int64) : Nat → Int64
  | 0 => a
  | k + 1 => fX_withPlace (tyb rv a k) (rv k)
def fX_typeOK (nk : Nat) (rv : Nat → Int32) (nr : Nat) (x1 : Int32) : Bool := fX_isKind nk x1 && decide (nr ≤ 10) && mall (fun k => fX_isKind nk (rv k) && !decide (rv k = 0)) nr
theorem tyOK_yes {nk nr : Nat} {rv : Nat → Int32} {x1 : Int32} (c : ¬ bI (fX_isKind nk x1) = 0) (c2 : nI nr ≤ (10 : Int32)) (hnr : nr ≤ 20) (he : mall (fun k => fX_isKind nk (rv k) && !decide (rv k = 0)) nr = true) : fX_typeOK nk rv nr x1 = true := by
  rw [fX_typeOK, bI_n0 c, he, decide_eq_true ((nI_leI (b := 10) (by omega) (by decide)).mp c2)]
  rfl
theorem mall_no {P : Nat → Bool} {n k : Nat} (hk : k < n) (h : P k = false) : mall P n = false := by
  cases hm : mall P n
  · rfl
  · rw [(mall_iff P n).mp hm k hk] at h
    cases h
theorem tyOK_no {nk nr k : Nat} {rv : Nat → Int32} {x1 : Int32} (hk : k < nr) (h : (fX_isKind nk (rv k) && !decide (rv k = 0)) = false) : fX_typeOK nk rv nr x1 = false := by
  rw [fX_typeOK, mall_no hk h, Bool.and_false]
theorem tyOK_k {nk nr : Nat} {rv : Nat → Int32} {x1 : Int32} (c : bI (fX_isKind nk x1) = 0) : fX_typeOK nk rv nr x1 = false := by
  rw [fX_typeOK, bI_e0 c]
  rfl
theorem tyOK_n {nk nr : Nat} {rv : Nat → Int32} {x1 : Int32} (hnr : nr ≤ 20) (c : ¬ nI nr ≤ (10 : Int32)) : fX_typeOK nk rv nr x1 = false := by
  rw [fX_typeOK, decide_eq_false (fun q => c (nI_le (b := 10) q (by decide))), Bool.and_false, Bool.false_and]

set_option maxHeartbeats 4000000 in
set_option maxRecDepth 100000 in
theorem cX_type (l : Launch) (dC : Nat → ClassId) (dI : Nat → Nat → Nat) (h0 qa qr qt : Nat) (cI cJ : ClassId) (av : Nat → Int32) (nk : Nat) (rv : Nat → Int32) (nr : Nat) (tv : Nat → Int64) (nt : Nat) (pk : Int32) (pn : Int64) (x1 : Int32) (hnt : nt ≤ 300) (hnr : nr ≤ 20) : Met l yX0_type wsX0_type ({ frames := 2, cells := 0, slots := 0, locals := 43 }) (kPw (dC, dI) vwCl [(cI, .int), (cJ, .long)] (xW h0 qa qr qt cI cJ av nk rv nr tv nt pk pn) [.ref h0, .int x1]) (kQw (dC, dI) vwCl (some (.int (if fX_typeOK nk rv nr x1 = true then nbR (fnd (fun zz => decide (tv zz = tyb rv x1.toInt64 nr)) nt 0) nt else (-1 : Int32)))) (xW h0 qa qr qt cI cJ av nk rv 0 (if fX_typeOK nk rv nr x1 = true then (nbV (fnd (fun zz => decide (tv zz = (tyb rv x1.toInt64 nr))) nt 0) nt tv (vp_updL tv nt (tyb rv x1.toInt64 nr))) else tv) (if fX_typeOK nk rv nr x1 = true then (nbN (fnd (fun zz => decide (tv zz = (tyb rv x1.toInt64 nr))) nt 0) nt) else nt) pk pn) [h0, qa, qr, qt]) 0 0 (fun q => q ∈ [h0, qa, qr, qt]) := by
  refine Met.ofW (cc := cX0_type) (maxL := 6) (ret := (some .int)) (by decide) rfl ?_
  intro p e s m args below meth c s₁ B hml hv
  obtain ⟨rfl, hP, hK, hD0⟩ := hv
  have hx := B.exec
  have hb := B.bytes
  have hr := B.returns
  have hts := atoms_spec (ws := wsX0_type) B.pre
  have hown : s.vm.findClass RX0 = some m.cls := findClass_of_methodNamed B.named
  have hlocks := B.notSynchronized
  have hin : ∀ w ∈ u_ws RX0 TX0 8, w ∈ wsX0_type := by decide +kernel
  have hD : va_D (fun q => q ∈ [h0, qa, qr, qt]) (xW h0 qa qr qt cI cJ av nk rv nr tv nt pk pn) := kD_self hD0 rfl
  have hS : va_S (fun q => q ∈ [h0, qa, qr, qt]) s.heap s.heap [] := va_S.rf
  have hl := lv_entry ([.ref h0, .int x1]) (n := 6) (Nat.le_of_ble_eq_true rfl)
  rw [lg_entry_eq]
  generalize (lg_sl ([.ref h0, .int x1]) ++ List.replicate (6 - (lg_sl ([.ref h0, .int x1])).length) Slot.unset).toArray = ls at hl ⊢
  have hl : lv_has ls 6 [(0, .ref h0), (1, .int x1)] := hl
  refine lv_aload_n hx hb dX0_type_0 rfl (lv_at hl 0 rfl) ?_
  refine va_get (D := (dC, dI)) (ci := 0) (v := .int (nI nr)) (C := RX0) (T := TX0) (N := 8) hx hb hts hin hown hK hP 0 rfl rfl 3 (by decide) (hts (.fieldLink RX0 24 "KindTable" "rowLength" "I") (by decide +kernel)) (fun _ h9 => h9) rfl dX0_type_1 ?_
  refine lv_istore_n (lv' := [(2, .int (nI nr)), (0, .ref h0), (1, .int x1)]) hx hb dX0_type_4 rfl hl (by decide) rfl (fun ls hl => ?_)
  refine lv_aload_n hx hb dX0_type_5 rfl (lv_at hl 1 rfl) ?_
  refine lv_iconst (v := 0) hx hb dX0_type_6 (by decide) ?_
  refine kv_topi (y := nI 0) rfl ?_
  refine va_put (D := (dC, dI)) (ci := 0) (v := .int (nI 0)) (ty := .int) (C := RX0) (T := TX0) (N := 8) hx hb hts hin tyX0 tyX0_ok nmX0 hown hK hP hD hS 0 rfl rfl 3 (by decide) (hts (.fieldLink RX0 24 "KindTable" "rowLength" "I") (by decide +kernel)) (fun _ h9 => h9) rfl (by decide +kernel) rfl rfl (Nat.le_of_ble_eq_true rfl) dX0_type_7 (fun H locs hP hD hS => ?_)
  have hP : va_P (dC, dI) vwCl (xW h0 qa qr qt cI cJ av nk rv 0 tv nt pk pn) H := hP
  have hD : va_D _ (xW h0 qa qr qt cI cJ av nk rv 0 tv nt pk pn) := hD
  refine lv_aload_n hx hb dX0_type_10 rfl (lv_at hl 1 rfl) ?_
  refine lv_iload_n hx hb dX0_type_11 rfl (lv_at hl 2 rfl) ?_
  refine kc_R [.int x1] [] ⟨hx, hb, hml, hown, hts⟩ (cX_isKind l dC dI h0 qa qr qt cI cJ av nk rv 0 tv nt pk pn x1) (cwV 1 hts gX0_type_X0_isKind rfl rfl rfl (by decide +kernel) ⟨(Nat.le_of_ble_eq_true rfl), (Nat.le_of_ble_eq_true rfl)⟩) hP hK (ci := 0) (q0 := 0) rfl rfl rfl rfl hl.1 rfl (Nat.le_of_ble_eq_true rfl) dX0_type_12 ⟨Nat.zero_le _, Nat.zero_le _⟩ ?_
  refine lv_if_eq (tgt := 24) hx hb dX0_type_15 (by decide) (fun c15 => ?_) (fun c15 => ?_)
  · refine lv_iconst (v := -1) hx hb dX0_type_24 (by decide) ?_
    exact W.iret hx hb hr (fun t ht hW => ⟨by rw [if_neg (by rw [(tyOK_k c15)]; decide)] <;> rfl, by rw [ht, if_neg (by rw [(tyOK_k c15)]; decide), if_neg (by rw [(tyOK_k c15)]; decide)]; exact hP, hS.F ht⟩) hS.2.2 dX0_type_25
  · refine lv_iload_n hx hb dX0_type_18 rfl (lv_at hl 0 rfl) ?_
    refine lv_bipush (v := 10) hx hb dX0_type_19 (by decide) ?_
    refine lv_icmp_le (tgt := 26) hx hb dX0_type_21 (by decide) (fun c21 => ?_) (fun c21 => ?_)
    · refine lv_iload_n hx hb dX0_type_26 rfl (lv_at hl 2 rfl) ?_
      refine lv_i2l hx hb dX0_type_27 rfl ?_
      refine lv_lstore_n (lv' := [(3, .long x1.toInt64), (2, .int (nI nr)), (0, .ref h0), (1, .int x1)]) hx hb dX0_type_28 rfl hl (by decide) rfl (fun ls hl => ?_)
      refine lv_iconst (v := 0) hx hb dX0_type_29 (by decide) ?_
      refine lv_istore (lv' := [(5, .int 0), (3, .long x1.toInt64), (2, .int (nI nr)), (0, .ref h0), (1, .int x1)]) hx hb dX0_type_30 hl (by decide) rfl (fun ls hl => ?_)
      suffices loop : ∀ (n k : Nat), k + n = nr → mall (fun k => fX_isKind nk (rv k) && !decide (rv k = 0)) k = true → ∀ (ls : Array Slot), lv_has ls 6 [(5, .int (nI k)), (3, .long (tyb rv x1.toInt64 k)), (2, .int (nI nr)), (0, .ref h0), (1, .int x1)] → W p l e (headSpec wsX0_type ({ frames := 2, cells := 0, slots := 0, locals := 43 })).room s m ([.ref h0, .int x1] : List Value).toArray below meth c H locs 0 0 (MQ below (kQw (dC, dI) vwCl (some (.int (if fX_typeOK nk rv nr x1 = true then nbR (fnd (fun zz => decide (tv zz = tyb rv x1.toInt64 nr)) nt 0) nt else (-1 : Int32)))) (xW h0 qa qr qt cI cJ av nk rv 0 (if fX_typeOK nk rv nr x1 = true then (nbV (fnd (fun zz => decide (tv zz = (tyb rv x1.toInt64 nr))) nt 0) nt tv (vp_updL tv nt (tyb rv x1.toInt64 nr))) else tv) (if fX_typeOK nk rv nr x1 = true then (nbN (fnd (fun zz => decide (tv zz = (tyb rv x1.toInt64 nr))) nt 0) nt) else nt) pk pn) [h0, qa, qr, qt]) ([.ref h0, .int x1] : List Value).toArray s 0 0 (fun q => q ∈ [h0, qa, qr, qt])) (F0 m 32 ls []) by
        exact loop nr 0 (by omega) rfl ls (lv_sub hl [0, 1, 2, 3, 4] rfl)
      intro n
      induction n with
      | zero =>
        intro k hk he ls hl
        obtain rfl : nr = k := by omega
        have hok : fX_typeOK nk rv nr x1 = true := tyOK_yes c15 c21 hnr he
        refine lv_iload hx hb dX0_type_32 (lv_at hl 0 rfl) ?_
        refine lv_iload_n hx hb dX0_type_34 rfl (lv_at hl 2 rfl) ?_
        refine lv_icmp_ge (tgt := 82) hx hb dX0_type_35 (by decide) (fun c35 => ?_) (fun c35 => ?_)
        · refine lv_aload_n hx hb dX0_type_82 rfl (lv_at hl 3 rfl) ?_
          refine lv_lload_n hx hb dX0_type_83 rfl (lv_at hl 1 rfl) ?_
          refine kc_W [.long (tyb rv x1.toInt64 nr)] [] ⟨hx, hb, hml, hown, hts⟩ (cX_numberOf l dC dI h0 qa qr qt cI cJ av nk rv 0 tv nt pk pn (tyb rv x1.toInt64 nr) hnt) (cwV 1 hts gX0_type_X0_numberOf rfl rfl rfl (by decide +kernel) ⟨(Nat.le_of_ble_eq_true rfl), (Nat.le_of_ble_eq_true rfl)⟩) hP hK hD hS rfl (ci := 0) (q0 := 0) rfl rfl rfl rfl hl.1 rfl (Nat.le_of_ble_eq_true rfl) dX0_type_84 ⟨Nat.zero_le _, Nat.zero_le _⟩ (fun H locs hP1 hS hk1 => ?_)
          have hP : va_P (dC, dI) vwCl (xW h0 qa qr qt cI cJ av nk rv 0 (nbV (fnd (fun zz => decide (tv zz = tyb rv x1.toInt64 nr)) nt 0) nt tv (vp_updL tv nt (tyb rv x1.toInt64 nr))) (nbN (fnd (fun zz => decide (tv zz = tyb rv x1.toInt64 nr)) nt 0) nt) pk pn) H := hP1
          have hD : va_D _ (xW h0 qa qr qt cI cJ av nk rv 0 (nbV (fnd (fun zz => decide (tv zz = tyb rv x1.toInt64 nr)) nt 0) nt tv (vp_updL tv nt (tyb rv x1.toInt64 nr))) (nbN (fnd (fun zz => decide (tv zz = tyb rv x1.toInt64 nr)) nt 0) nt) pk pn) := kD_same hD rfl
          exact W.iret hx hb hr (fun t ht hW => ⟨by rw [if_pos hok] <;> rfl, by rw [ht, if_pos hok, if_pos hok]; exact hP, hS.F ht⟩) hS.2.2 dX0_type_87
        · exact absurd (nI_le (by omega) (by omega)) c35
      | succ n ih =>
        intro k hk he ls hl
        refine lv_iload hx hb dX0_type_32 (lv_at hl 0 rfl) ?_
        refine lv_iload_n hx hb dX0_type_34 rfl (lv_at hl 2 rfl) ?_
        refine lv_icmp_ge (tgt := 82) hx hb dX0_type_35 (by decide) (fun c35 => ?_) (fun c35 => ?_)
        · exact absurd ((nI_leI (by omega) (by omega)).mp c35) (by omega)
        · refine lv_aload_n hx hb dX0_type_38 rfl (lv_at hl 3 rfl) ?_
          refine lv_aload_n hx hb dX0_type_39 rfl (lv_at hl 3 rfl) ?_
          refine va_get (D := (dC, dI)) (ci := 0) (v := .ref qr) (C := RX0) (T := TX0) (N := 8) hx hb hts hin hown hK hP 0 rfl rfl 2 (by decide) (hts (.fieldLink RX0 21 "KindTable" "row" "[I") (by decide +kernel)) (fun _ h9 => h9) rfl dX0_type_40 ?_
          refine lv_iload hx hb dX0_type_43 (lv_at hl 0 rfl) ?_
          refine va_iald hx hb hK hP 2 0 rfl rfl (vp_in_nI (by omega) (by decide)) dX0_type_45 ?_
          refine kv_topi (y := rv k) (by rw [nI_clamp (by omega)]) ?_
          refine kc_R [.int (rv k)] [] ⟨hx, hb, hml, hown, hts⟩ (cX_isKind l dC dI h0 qa qr qt cI cJ av nk rv 0 tv nt pk pn (rv k)) (cwV 1 hts gX0_type_X0_isKind rfl rfl rfl (by decide +kernel) ⟨(Nat.le_of_ble_eq_true rfl), (Nat.le_of_ble_eq_true rfl)⟩) hP hK (ci := 0) (q0 := 0) rfl rfl rfl rfl hl.1 rfl (Nat.le_of_ble_eq_true rfl) dX0_type_46 ⟨Nat.zero_le _, Nat.zero_le _⟩ ?_
          refine lv_if_eq (tgt := 62) hx hb dX0_type_49 (by decide) (fun c49 => ?_) (fun c49 => ?_)
          · refine lv_iconst (v := -1) hx hb dX0_type_62 (by decide) ?_
            exact W.iret hx hb hr (fun t ht hW => ⟨by rw [if_neg (by rw [(tyOK_no (k := k) (by omega) (by rw [bI_e0 c49] <;> rfl))]; decide)] <;> rfl, by rw [ht, if_neg (by rw [(tyOK_no (k := k) (by omega) (by rw [bI_e0 c49] <;> rfl))]; decide), if_neg (by rw [(tyOK_no (k := k) (by omega) (by rw [bI_e0 c49] <;> rfl))]; decide)]; exact hP, hS.F ht⟩) hS.2.2 dX0_type_63
          · refine lv_aload_n hx hb dX0_type_52 rfl (lv_at hl 3 rfl) ?_
            refine va_get (D := (dC, dI)) (ci := 0) (v := .ref qr) (C := RX0) (T := TX0) (N := 8) hx hb hts hin hown hK hP 0 rfl rfl 2 (by decide) (hts (.fieldLink RX0 21 "KindTable" "row" "[I") (by decide +kernel)) (fun _ h9 => h9) rfl dX0_type_53 ?_
            refine lv_iload hx hb dX0_type_56 (lv_at hl 0 rfl) ?_
            refine va_iald hx hb hK hP 2 0 rfl rfl (vp_in_nI (by omega) (by decide)) dX0_type_58 ?_
            refine kv_topi (y := rv k) (by rw [nI_clamp (by omega)]) ?_
            refine lv_if_ne (tgt := 64) hx hb dX0_type_59 (by decide) (fun c59 => ?_) (fun c59 => ?_)
            · refine lv_lload_n hx hb dX0_type_64 rfl (lv_at hl 1 rfl) ?_
              refine lv_aload_n hx hb dX0_type_65 rfl (lv_at hl 3 rfl) ?_
              refine va_get (D := (dC, dI)) (ci := 0) (v := .ref qr) (C := RX0) (T := TX0) (N := 8) hx hb hts hin hown hK hP 0 rfl rfl 2 (by decide) (hts (.fieldLink RX0 21 "KindTable" "row" "[I") (by decide +kernel)) (fun _ h9 => h9) rfl dX0_type_66 ?_
              refine lv_iload hx hb dX0_type_69 (lv_at hl 0 rfl) ?_
              refine va_iald hx hb hK hP 2 0 rfl rfl (vp_in_nI (by omega) (by decide)) dX0_type_71 ?_
              refine kv_topi (y := rv k) (by rw [nI_clamp (by omega)]) ?_
              refine kc_S [.long (tyb rv x1.toInt64 k), .int (rv k)] [] ⟨hx, hb, hml, hown, hts⟩ (cX_withPlace l (tyb rv x1.toInt64 k) (rv k)) (cwS 2 hts gX0_type_X0_withPlace rfl rfl rfl (by decide +kernel) ⟨(Nat.le_of_ble_eq_true rfl), (Nat.le_of_ble_eq_true rfl)⟩) rfl hl.1 rfl (Nat.le_of_ble_eq_true rfl) dX0_type_72 ⟨Nat.zero_le _, Nat.zero_le _⟩ ?_
              refine lv_lstore_n (lv' := [(3, .long (fX_withPlace (tyb rv x1.toInt64 k) (rv k))), (5, .int (nI k)), (2, .int (nI nr)), (0, .ref h0), (1, .int x1)]) hx hb dX0_type_75 rfl hl (by decide) rfl (fun ls hl => ?_)
              refine lv_iinc (v := nI (k + 1)) (lv' := [(5, .int (nI (k + 1))), (3, .long (fX_withPlace (tyb rv x1.toInt64 k) (rv k))), (2, .int (nI nr)), (0, .ref h0), (1, .int x1)]) hx hb dX0_type_76 hl (k := 1) rfl (nI_1 k) (by decide) rfl (fun ls hl => ?_)
              refine lv_goto (tgt := 32) hx hb dX0_type_79 (by decide) ?_
              exact ih (k + 1) (by omega) (by rw [mall, he, bI_n0 c49, decide_eq_false c59] <;> rfl) ls (lv_sub hl [0, 1, 2, 3, 4] rfl)
            · refine lv_iconst (v := -1) hx hb dX0_type_62 (by decide) ?_
              exact W.iret hx hb hr (fun t ht hW => ⟨by rw [if_neg (by rw [(tyOK_no (k := k) (by omega) (by rw [decide_eq_true c59, Bool.not_true, Bool.and_false]))]; decide)] <;> rfl, by rw [ht, if_neg (by rw [(tyOK_no (k := k) (by omega) (by rw [decide_eq_true c59, Bool.not_true, Bool.and_false]))]; decide), if_neg (by rw [(tyOK_no (k := k) (by omega) (by rw [decide_eq_true c59, Bool.not_true, Bool.and_false]))]; decide)]; exact hP, hS.F ht⟩) hS.2.2 dX0_type_63
    · refine lv_iconst (v := -1) hx hb dX0_type_24 (by decide) ?_
      exact W.iret hx hb hr (fun t ht hW => ⟨by rw [if_neg (by rw [(tyOK_n hnr c21)]; decide)] <;> rfl, by rw [ht, if_neg (by rw [(tyOK_n hnr c21)]; decide), if_neg (by rw [(tyOK_n hnr c21)]; decide)]; exact hP, hS.F ht⟩) hS.2.2 dX0_type_25
def fX_mayBe (nk : Nat) (tv : Nat → Int64) (nt : Nat) (bl : Nat → Nat → Bool) (x1 x2 : Int32) (x3 : Bool) : Bool := if (bI (fX_isType nt x1)) = 0 then false else if (bI (fX_isType nt x2)) = 0 then false else if (fX_placesOf (tv x1.toNatClampNeg)) = (fX_placesOf (tv x2.toNatClampNeg)) then if (bI (fX_may nk bl (fX_resultOf (tv x1.toNatClampNeg)) (fX_resultOf (tv x2.toNatClampNeg)) x3 true)) = 0 then false else mall (fun k => fX_may nk bl (fX_placeOf (tv x2.toNatClampNeg) (nI k)) (fX_placeOf (tv x1.toNatClampNeg) (nI k)) x3 false) (fX_placesOf (tv x1.toNatClampNeg)).toNatClampNeg else false
set_option maxHeartbeats 4000000 in
set_option maxRecDepth 100000 in
theorem cX_mayBe (l : Launch) (dC : Nat → ClassId) (dI : Nat → Nat → Nat) (h0 qa qr qt : Nat) (cI cJ : ClassId) (av : Nat → Int32) (nk : Nat) (rv : Nat → Int32) (nr : Nat) (tv : Nat → Int64) (nt : Nat) (pk : Int32) (pn : Int64) (bl : Nat → Nat → Bool) (x1 : Int32) (x2 : Int32) (x3 : Bool) (hAV : kAV bl av nk) (hnk : 20 ≤ nk ∧ nk ≤ 32) (hnt : nt ≤ 300) : Met l yX0_mayBe wsX0_mayBe ({ frames := 4, cells := 0, slots := 0, locals := 89 }) (kPr (dC, dI) vwCl [(cI, .int), (cJ, .long)] (xW h0 qa qr qt cI cJ av nk rv nr tv nt pk pn) [.ref h0, .int x1, .int x2, .int (bI x3)]) (k2_QcV (.int (bI (fX_mayBe nk tv nt bl x1 x2 x3)))) 0 0 kNo := by
  refine Met.ofW (cc := cX0_mayBe) (maxL := 10) (ret := (some .boolean)) (by decide) rfl ?_
  intro p e s m args below meth c s₁ B hml hv
  obtain ⟨rfl, hP, hK⟩ := hv
  have hx := B.exec
  have hb := B.bytes
  have hr := B.returns
  have hts := atoms_spec (ws := wsX0_mayBe) B.pre
  have hown : s.vm.findClass RX0 = some m.cls := findClass_of_methodNamed B.named
  have hlocks := B.notSynchronized
  have hin : ∀ w ∈ u_ws RX0 TX0 8, w ∈ wsX0_mayBe := by decide +kernel
  have hl := lv_entry ([.ref h0, .int x1, .int x2, .int (bI x3)]) (n := 10) (Nat.le_of_ble_eq_true rfl)
  rw [lg_entry_eq]
  generalize (lg_sl ([.ref h0, .int x1, .int x2, .int (bI x3)]) ++ List.replicate (10 - (lg_sl ([.ref h0, .int x1, .int x2, .int (bI x3)])).length) Slot.unset).toArray = ls at hl ⊢
  have hl : lv_has ls 10 [(0, .ref h0), (1, .int x1), (2, .int x2), (3, .int (bI x3))] := hl
  refine lv_aload_n hx hb dX0_mayBe_0 rfl (lv_at hl 0 rfl) ?_
  refine lv_iload_n hx hb dX0_mayBe_1 rfl (lv_at hl 1 rfl) ?_
  refine kc_R [.int x1] [] ⟨hx, hb, hml, hown, hts⟩ (cX_isType l dC dI h0 qa qr qt cI cJ av nk rv nr tv nt pk pn x1) (cwV 1 hts gX0_mayBe_X0_isType rfl rfl rfl (by decide +kernel) ⟨(Nat.le_of_ble_eq_true rfl), (Nat.le_of_ble_eq_true rfl)⟩) hP hK (ci := 0) (q0 := 0) rfl rfl rfl rfl hl.1 rfl (Nat.le_of_ble_eq_true rfl) dX0_mayBe_2 ⟨Nat.zero_le _, Nat.zero_le _⟩ ?_
  refine lv_if_eq (tgt := 16) hx hb dX0_mayBe_5 (by decide) (fun c5 => ?_) (fun c5 => ?_)
  · refine lv_iconst (v := 0) hx hb dX0_mayBe_16 (by decide) ?_
    exact W.zret hx hb hr rfl (fun t ht hW => ⟨by rw [fX_mayBe, if_pos c5] <;> rfl, ht⟩) (fun _ h => by cases h) dX0_mayBe_17
  · refine lv_aload_n hx hb dX0_mayBe_8 rfl (lv_at hl 0 rfl) ?_
    refine lv_iload_n hx hb dX0_mayBe_9 rfl (lv_at hl 2 rfl) ?_
    refine kc_R [.int x2] [] ⟨hx, hb, hml, hown, hts⟩ (cX_isType l dC dI h0 qa qr qt cI cJ av nk rv nr tv nt pk pn x2) (cwV 1 hts gX0_mayBe_X0_isType rfl rfl rfl (by decide +kernel) ⟨(Nat.le_of_ble_eq_true rfl), (Nat.le_of_ble_eq_true rfl)⟩) hP hK (ci := 0) (q0 := 0) rfl rfl rfl rfl hl.1 rfl (Nat.le_of_ble_eq_true rfl) dX0_mayBe_10 ⟨Nat.zero_le _, Nat.zero_le _⟩ ?_
    refine lv_if_ne (tgt := 18) hx hb dX0_mayBe_13 (by decide) (fun c13 => ?_) (fun c13 => ?_)
    · refine lv_aload_n hx hb dX0_mayBe_18 rfl (lv_at hl 0 rfl) ?_
      refine va_get (D := (dC, dI)) (ci := 0) (v := .ref qt) (C := RX0) (T := TX0) (N := 8) hx hb hts hin hown hK hP 0 rfl rfl 4 (by decide) (hts (.fieldLink RX0 27 "KindTable" "types" "[J") (by decide +kernel)) (fun _ h9 => h9) rfl dX0_mayBe_19 ?_
      refine lv_iload_n hx hb dX0_mayBe_22 rfl (lv_at hl 1 rfl) ?_
      refine va_lald hx hb hK hP 3 1 rfl rfl (vp_in_mono (kT_in hnt c5) hnt) dX0_mayBe_23 ?_
      refine lv_lstore (lv' := [(4, .long (tv x1.toNatClampNeg)), (0, .ref h0), (1, .int x1), (2, .int x2), (3, .int (bI x3))]) hx hb dX0_mayBe_24 hl (by decide) rfl (fun ls hl => ?_)
      refine lv_aload_n hx hb dX0_mayBe_26 rfl (lv_at hl 1 rfl) ?_
      refine va_get (D := (dC, dI)) (ci := 0) (v := .ref qt) (C := RX0) (T := TX0) (N := 8) hx hb hts hin hown hK hP 0 rfl rfl 4 (by decide) (hts (.fieldLink RX0 27 "KindTable" "types" "[J") (by decide +kernel)) (fun _ h9 => h9) rfl dX0_mayBe_27 ?_
      refine lv_iload_n hx hb dX0_mayBe_30 rfl (lv_at hl 3 rfl) ?_
      refine va_lald hx hb hK hP 3 1 rfl rfl (vp_in_mono (kT_in hnt c13) hnt) dX0_mayBe_31 ?_
      refine lv_lstore (lv' := [(6, .long (tv x2.toNatClampNeg)), (4, .long (tv x1.toNatClampNeg)), (0, .ref h0), (1, .int x1), (2, .int x2), (3, .int (bI x3))]) hx hb dX0_mayBe_32 hl (by decide) rfl (fun ls hl => ?_)
      refine lv_lload hx hb dX0_mayBe_34 (lv_at hl 1 rfl) ?_
      refine kc_S [.long (tv x1.toNatClampNeg)] [] ⟨hx, hb, hml, hown, hts⟩ (cX_placesOf l (tv x1.toNatClampNeg)) (cwS 1 hts gX0_mayBe_X0_placesOf rfl rfl rfl (by decide +kernel) ⟨(Nat.le_of_ble_eq_true rfl), (Nat.le_of_ble_eq_true rfl)⟩) rfl hl.1 rfl (Nat.le_of_ble_eq_true rfl) dX0_mayBe_36 ⟨Nat.zero_le _, Nat.zero_le _⟩ ?_
      refine lv_istore (lv' := [(8, .int (fX_placesOf (tv x1.toNatClampNeg))), (6, .long (tv x2.toNatClampNeg)), (4, .long (tv x1.toNatClampNeg)), (0, .ref h0), (1, .int x1), (2, .int x2), (3, .int (bI x3))]) hx hb dX0_mayBe_39 hl (by decide) rfl (fun ls hl => ?_)
      refine lv_iload hx hb dX0_mayBe_41 (lv_at hl 0 rfl) ?_
      refine lv_lload hx hb dX0_mayBe_43 (lv_at hl 1 rfl) ?_
      refine kc_S [.long (tv x2.toNatClampNeg)] [.int (fX_placesOf (tv x1.toNatClampNeg))] ⟨hx, hb, hml, hown, hts⟩ (cX_placesOf l (tv x2.toNatClampNeg)) (cwS 1 hts gX0_mayBe_X0_placesOf rfl rfl rfl (by decide +kernel) ⟨(Nat.le_of_ble_eq_true rfl), (Nat.le_of_ble_eq_true rfl)⟩) rfl hl.1 rfl (Nat.le_of_ble_eq_true rfl) dX0_mayBe_45 ⟨Nat.zero_le _, Nat.zero_le _⟩ ?_
      refine lv_icmp_ne (tgt := 70) hx hb dX0_mayBe_48 (by decide) (fun c48 => ?_) (fun c48 => ?_)
      · refine lv_iconst (v := 0) hx hb dX0_mayBe_70 (by decide) ?_
        exact W.zret hx hb hr rfl (fun t ht hW => ⟨by rw [fX_mayBe, if_neg c5, if_neg c13, if_neg c48] <;> rfl, ht⟩) (fun _ h => by cases h) dX0_mayBe_71
      · refine lv_aload_n hx hb dX0_mayBe_51 rfl (lv_at hl 3 rfl) ?_
        refine lv_lload hx hb dX0_mayBe_52 (lv_at hl 2 rfl) ?_
        refine kc_S [.long (tv x1.toNatClampNeg)] [.ref h0] ⟨hx, hb, hml, hown, hts⟩ (cX_resultOf l (tv x1.toNatClampNeg)) (cwS 1 hts gX0_mayBe_X0_resultOf rfl rfl rfl (by decide +kernel) ⟨(Nat.le_of_ble_eq_true rfl), (Nat.le_of_ble_eq_true rfl)⟩) rfl hl.1 rfl (Nat.le_of_ble_eq_true rfl) dX0_mayBe_54 ⟨Nat.zero_le _, Nat.zero_le _⟩ ?_
        refine lv_lload hx hb dX0_mayBe_57 (lv_at hl 1 rfl) ?_
        refine kc_S [.long (tv x2.toNatClampNeg)] [.int (fX_resultOf (tv x1.toNatClampNeg)), .ref h0] ⟨hx, hb, hml, hown, hts⟩ (cX_resultOf l (tv x2.toNatClampNeg)) (cwS 1 hts gX0_mayBe_X0_resultOf rfl rfl rfl (by decide +kernel) ⟨(Nat.le_of_ble_eq_true rfl), (Nat.le_of_ble_eq_true rfl)⟩) rfl hl.1 rfl (Nat.le_of_ble_eq_true rfl) dX0_mayBe_59 ⟨Nat.zero_le _, Nat.zero_le _⟩ ?_
        refine lv_iload_n hx hb dX0_mayBe_62 rfl (lv_at hl 6 rfl) ?_
        refine lv_iconst (v := 1) hx hb dX0_mayBe_63 (by decide) ?_
        refine kc_R [.int (fX_resultOf (tv x1.toNatClampNeg)), .int (fX_resultOf (tv x2.toNatClampNeg)), .int (bI x3), .int 1] [] ⟨hx, hb, hml, hown, hts⟩ (cX_may l dC dI h0 qa qr qt cI cJ av nk rv nr tv nt pk pn bl (fX_resultOf (tv x1.toNatClampNeg)) (fX_resultOf (tv x2.toNatClampNeg)) x3 true hAV hnk) (cwV 4 hts gX0_mayBe_X0_may rfl rfl rfl (by decide +kernel) ⟨(Nat.le_of_ble_eq_true rfl), (Nat.le_of_ble_eq_true rfl)⟩) hP hK (ci := 0) (q0 := 0) rfl rfl rfl rfl hl.1 rfl (Nat.le_of_ble_eq_true rfl) dX0_mayBe_64 ⟨Nat.zero_le _, Nat.zero_le _⟩ ?_
        refine lv_if_ne (tgt := 72) hx hb dX0_mayBe_67 (by decide) (fun c67 => ?_) (fun c67 => ?_)
        · refine lv_iconst (v := 0) hx hb dX0_mayBe_72 (by decide) ?_
          refine lv_istore (lv' := [(9, .int 0), (8, .int (fX_placesOf (tv x1.toNatClampNeg))), (6, .long (tv x2.toNatClampNeg)), (4, .long (tv x1.toNatClampNeg)), (0, .ref h0), (1, .int x1), (2, .int x2), (3, .int (bI x3))]) hx hb dX0_mayBe_73 hl (by decide) rfl (fun ls hl => ?_)
          obtain ⟨N, hN, eN⟩ := plo_of (tv x1.toNatClampNeg)
          have hfn : fX_mayBe nk tv nt bl x1 x2 x3 = mall (fun k => fX_may nk bl (fX_placeOf (tv x2.toNatClampNeg) (nI k)) (fX_placeOf (tv x1.toNatClampNeg) (nI k)) x3 false) N := by rw [fX_mayBe, if_neg c5, if_neg c13, if_pos c48, if_neg c67, eN, nI_clamp (by omega)]
          suffices loop : ∀ (n k : Nat), k + n = N → mall (fun k => fX_may nk bl (fX_placeOf (tv x2.toNatClampNeg) (nI k)) (fX_placeOf (tv x1.toNatClampNeg) (nI k)) x3 false) k = true → ∀ (ls : Array Slot), lv_has ls 10 [(9, .int (nI k)), (8, .int (fX_placesOf (tv x1.toNatClampNeg))), (6, .long (tv x2.toNatClampNeg)), (4, .long (tv x1.toNatClampNeg)), (0, .ref h0), (1, .int x1), (2, .int x2), (3, .int (bI x3))] → W p l e (headSpec wsX0_mayBe ({ frames := 4, cells := 0, slots := 0, locals := 89 })).room s m ([.ref h0, .int x1, .int x2, .int (bI x3)] : List Value).toArray below meth c s.heap [] 0 0 (MQ below (k2_QcV (.int (bI (fX_mayBe nk tv nt bl x1 x2 x3)))) ([.ref h0, .int x1, .int x2, .int (bI x3)] : List Value).toArray s 0 0 kNo) (F0 m 75 ls []) by
            exact loop N 0 (by omega) rfl ls (lv_sub hl [0, 1, 2, 3, 4, 5, 6, 7] rfl)
          intro n
          induction n with
          | zero =>
            intro k hk he ls hl
            obtain rfl : N = k := by omega
            refine lv_iload hx hb dX0_mayBe_75 (lv_at hl 0 rfl) ?_
            refine lv_iload hx hb dX0_mayBe_77 (lv_at hl 1 rfl) ?_
            refine lv_icmp_ge (tgt := 113) hx hb dX0_mayBe_79 (by decide) (fun c79 => ?_) (fun c79 => ?_)
            · refine lv_iconst (v := 1) hx hb dX0_mayBe_113 (by decide) ?_
              exact W.zret hx hb hr rfl (fun t ht hW => ⟨by rw [hfn, he] <;> rfl, ht⟩) (fun _ h => by cases h) dX0_mayBe_114
            · exact absurd (by rw [eN]; exact nI_le (by omega) (by omega)) c79
          | succ n ih =>
            intro k hk he ls hl
            refine lv_iload hx hb dX0_mayBe_75 (lv_at hl 0 rfl) ?_
            refine lv_iload hx hb dX0_mayBe_77 (lv_at hl 1 rfl) ?_
            refine lv_icmp_ge (tgt := 113) hx hb dX0_mayBe_79 (by decide) (fun c79 => ?_) (fun c79 => ?_)
            · rw [eN] at c79; exact absurd ((nI_leI (by omega) (by omega)).mp c79) (by omega)
            · refine lv_aload_n hx hb dX0_mayBe_82 rfl (lv_at hl 4 rfl) ?_
              refine lv_lload hx hb dX0_mayBe_83 (lv_at hl 2 rfl) ?_
              refine lv_iload hx hb dX0_mayBe_85 (lv_at hl 0 rfl) ?_
              refine kc_S [.long (tv x2.toNatClampNeg), .int (nI k)] [.ref h0] ⟨hx, hb, hml, hown, hts⟩ (cX_placeOf l (tv x2.toNatClampNeg) (nI k)) (cwS 2 hts gX0_mayBe_X0_placeOf rfl rfl rfl (by decide +kernel) ⟨(Nat.le_of_ble_eq_true rfl), (Nat.le_of_ble_eq_true rfl)⟩) rfl hl.1 rfl (Nat.le_of_ble_eq_true rfl) dX0_mayBe_87 ⟨Nat.zero_le _, Nat.zero_le _⟩ ?_
              refine lv_lload hx hb dX0_mayBe_90 (lv_at hl 3 rfl) ?_
              refine lv_iload hx hb dX0_mayBe_92 (lv_at hl 0 rfl) ?_
              refine kc_S [.long (tv x1.toNatClampNeg), .int (nI k)] [.int (fX_placeOf (tv x2.toNatClampNeg) (nI k)), .ref h0] ⟨hx, hb, hml, hown, hts⟩ (cX_placeOf l (tv x1.toNatClampNeg) (nI k)) (cwS 2 hts gX0_mayBe_X0_placeOf rfl rfl rfl (by decide +kernel) ⟨(Nat.le_of_ble_eq_true rfl), (Nat.le_of_ble_eq_true rfl)⟩) rfl hl.1 rfl (Nat.le_of_ble_eq_true rfl) dX0_mayBe_94 ⟨Nat.zero_le _, Nat.zero_le _⟩ ?_
              refine lv_iload_n hx hb dX0_mayBe_97 rfl (lv_at hl 7 rfl) ?_
              refine lv_iconst (v := 0) hx hb dX0_mayBe_98 (by decide) ?_
              refine kc_R [.int (fX_placeOf (tv x2.toNatClampNeg) (nI k)), .int (fX_placeOf (tv x1.toNatClampNeg) (nI k)), .int (bI x3), .int 0] [] ⟨hx, hb, hml, hown, hts⟩ (cX_may l dC dI h0 qa qr qt cI cJ av nk rv nr tv nt pk pn bl (fX_placeOf (tv x2.toNatClampNeg) (nI k)) (fX_placeOf (tv x1.toNatClampNeg) (nI k)) x3 false hAV hnk) (cwV 4 hts gX0_mayBe_X0_may rfl rfl rfl (by decide +kernel) ⟨(Nat.le_of_ble_eq_true rfl), (Nat.le_of_ble_eq_true rfl)⟩) hP hK (ci := 0) (q0 := 0) rfl rfl rfl rfl hl.1 rfl (Nat.le_of_ble_eq_true rfl) dX0_mayBe_99 ⟨Nat.zero_le _, Nat.zero_le _⟩ ?_
              refine lv_if_ne (tgt := 107) hx hb dX0_mayBe_102 (by decide) (fun c102 => ?_) (fun c102 => ?_)
              · refine lv_iinc (v := nI (k + 1)) (lv' := [(9, .int (nI (k + 1))), (8, .int (fX_placesOf (tv x1.toNatClampNeg))), (6, .long (tv x2.toNatClampNeg)), (4, .long (tv x1.toNatClampNeg)), (0, .ref h0), (1, .int x1), (2, .int x2), (3, .int (bI x3))]) hx hb dX0_mayBe_107 hl (k := 0) rfl (nI_1 k) (by decide) rfl (fun ls hl => ?_)
                refine lv_goto (tgt := 75) hx hb dX0_mayBe_110 (by decide) ?_
                exact ih (k + 1) (by omega) (by rw [mall, he, bI_n0 c102] <;> rfl) ls (lv_sub hl [0, 1, 2, 3, 4, 5, 6, 7] rfl)
              · refine lv_iconst (v := 0) hx hb dX0_mayBe_105 (by decide) ?_
                exact W.zret hx hb hr rfl (fun t ht hW => ⟨by rw [hfn, mall_no (k := k) (by omega) (bI_e0 c102)] <;> rfl, ht⟩) (fun _ h => by cases h) dX0_mayBe_106
        · refine lv_iconst (v := 0) hx hb dX0_mayBe_70 (by decide) ?_
          exact W.zret hx hb hr rfl (fun t ht hW => ⟨by rw [fX_mayBe, if_neg c5, if_neg c13, if_pos c48, if_pos c67] <;> rfl, ht⟩) (fun _ h => by cases h) dX0_mayBe_71
    · refine lv_iconst (v := 0) hx hb dX0_mayBe_16 (by decide) ?_
      exact W.zret hx hb hr rfl (fun t ht hW => ⟨by rw [fX_mayBe, if_neg c5, if_pos c13] <;> rfl, ht⟩) (fun _ h => by cases h) dX0_mayBe_17
