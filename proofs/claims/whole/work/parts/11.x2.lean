set_option maxHeartbeats 4000000 in
set_option maxRecDepth 100000 in
theorem cX_isBelow (l : Launch) (dC : Nat → ClassId) (dI : Nat → Nat → Nat) (h0 qa qr qt : Nat) (cI cJ : ClassId) (av : Nat → Int32) (nk : Nat) (rv : Nat → Int32) (nr : Nat) (tv : Nat → Int64) (nt : Nat) (pk : Int32) (pn : Int64) (bl : Nat → Nat → Bool) (x1 : Int32) (x2 : Int32) (hAV : kAV bl av nk) (hnk : 20 ≤ nk ∧ nk ≤ 32) (hx1 : vp_in x1 nk) (hx2 : vp_in x2 32) : Met l yX0_isBelow wsX0_isBelow ({ frames := 0, cells := 0, slots := 0, locals := 0 }) (kPr (dC, dI) vwCl [(cI, .int), (cJ, .long)] (xW h0 qa qr qt cI cJ av nk rv nr tv nt pk pn) [.ref h0, .int x1, .int x2]) (k2_QcV (.int (bI (blI bl x1 x2)))) 0 0 kNo := by
  refine Met.ofW (cc := cX0_isBelow) (maxL := 3) (ret := (some .boolean)) (by decide) rfl ?_
  intro p e s m args below meth c s₁ B hml hv
  obtain ⟨rfl, hP, hK⟩ := hv
  have hx := B.exec
  have hb := B.bytes
  have hr := B.returns
  have hts := atoms_spec (ws := wsX0_isBelow) B.pre
  have hown : s.vm.findClass RX0 = some m.cls := findClass_of_methodNamed B.named
  have hlocks := B.notSynchronized
  have hin : ∀ w ∈ u_ws RX0 TX0 8, w ∈ wsX0_isBelow := by decide +kernel
  have hl := lv_entry ([.ref h0, .int x1, .int x2]) (n := 3) (Nat.le_of_ble_eq_true rfl)
  rw [lg_entry_eq]
  generalize (lg_sl ([.ref h0, .int x1, .int x2]) ++ List.replicate (3 - (lg_sl ([.ref h0, .int x1, .int x2])).length) Slot.unset).toArray = ls at hl ⊢
  have hl : lv_has ls 3 [(0, .ref h0), (1, .int x1), (2, .int x2)] := hl
  refine lv_aload_n hx hb dX0_isBelow_0 rfl (lv_at hl 0 rfl) ?_
  refine va_get (D := (dC, dI)) (ci := 0) (v := .ref qa) (C := RX0) (T := TX0) (N := 8) hx hb hts hin hown hK hP 0 rfl rfl 0 (by decide) (hts (.fieldLink RX0 9 "KindTable" "above" "[I") (by decide +kernel)) (fun _ h9 => h9) rfl dX0_isBelow_1 ?_
  refine lv_iload_n hx hb dX0_isBelow_4 rfl (lv_at hl 1 rfl) ?_
  refine va_iald hx hb hK hP 1 0 rfl rfl (vp_in_mono hx1 hnk.2) dX0_isBelow_5 ?_
  refine lv_iload_n hx hb dX0_isBelow_6 rfl (lv_at hl 2 rfl) ?_
  refine lv_iushr hx hb dX0_isBelow_7 rfl ?_
  refine lv_iconst (v := 1) hx hb dX0_isBelow_8 (by decide) ?_
  refine lv_iand hx hb dX0_isBelow_9 ?_
  refine lv_if_eq (tgt := 17) hx hb dX0_isBelow_10 (by decide) (fun c10 => ?_) (fun c10 => ?_)
  · refine lv_iconst (v := 0) hx hb dX0_isBelow_17 (by decide) ?_
    exact W.zret hx hb hr rfl (fun t ht hW => ⟨by rw [kAV_bit0 hAV hnk.2 hx1 hx2 c10] <;> rfl, ht⟩) (fun _ h => by cases h) dX0_isBelow_18
  · refine lv_iconst (v := 1) hx hb dX0_isBelow_13 (by decide) ?_
    refine lv_goto (tgt := 18) hx hb dX0_isBelow_14 (by decide) ?_
    exact W.zret hx hb hr rfl (fun t ht hW => ⟨by rw [kAV_bit1 hAV hnk.2 hx1 hx2 c10] <;> rfl, ht⟩) (fun _ h => by cases h) dX0_isBelow_18
def fX_mayPass (bl : Nat → Nat → Bool) (x1 : Int32) (x2 : Int32) (x3 : Bool) : Bool := if (bI (fX_isPlain x1)) = 0 then if (bI (fX_isPlain x2)) = 0 then true else if (bI x3) = 0 then (fX_mayUnbox x1 x2) else if x1 = (7 : Int32) then true else if x1 = (8 : Int32) then true else if (bI (fX_isBox x1)) = 0 then false else true else if (bI (fX_isPlain x2)) = 0 then (blI bl (x1 + (8 : Int32)) x2) else if (bI x3) = 0 then if (bI (fX_mayWiden x1 x2)) = 0 then false else true else true
set_option maxHeartbeats 4000000 in
set_option maxRecDepth 100000 in
theorem cX_mayPass (l : Launch) (dC : Nat → ClassId) (dI : Nat → Nat → Nat) (h0 qa qr qt : Nat) (cI cJ : ClassId) (av : Nat → Int32) (nk : Nat) (rv : Nat → Int32) (nr : Nat) (tv : Nat → Int64) (nt : Nat) (pk : Int32) (pn : Int64) (bl : Nat → Nat → Bool) (x1 : Int32) (x2 : Int32) (x3 : Bool) (hAV : kAV bl av nk) (hnk : 20 ≤ nk ∧ nk ≤ 32) (hx2 : vp_in x2 32) : Met l yX0_mayPass wsX0_mayPass ({ frames := 2, cells := 0, slots := 0, locals := 42 }) (kPr (dC, dI) vwCl [(cI, .int), (cJ, .long)] (xW h0 qa qr qt cI cJ av nk rv nr tv nt pk pn) [.ref h0, .int x1, .int x2, .int (bI x3)]) (k2_QcV (.int (bI (fX_mayPass bl x1 x2 x3)))) 0 0 kNo := by
  refine Met.ofW (cc := cX0_mayPass) (maxL := 4) (ret := (some .boolean)) (by decide) rfl ?_
  intro p e s m args below meth c s₁ B hml hv
  obtain ⟨rfl, hP, hK⟩ := hv
  have hx := B.exec
  have hb := B.bytes
  have hr := B.returns
  have hts := atoms_spec (ws := wsX0_mayPass) B.pre
  have hown : s.vm.findClass RX0 = some m.cls := findClass_of_methodNamed B.named
  have hlocks := B.notSynchronized
  have hl := lv_entry ([.ref h0, .int x1, .int x2, .int (bI x3)]) (n := 4) (Nat.le_of_ble_eq_true rfl)
  rw [lg_entry_eq]
  generalize (lg_sl ([.ref h0, .int x1, .int x2, .int (bI x3)]) ++ List.replicate (4 - (lg_sl ([.ref h0, .int x1, .int x2, .int (bI x3)])).length) Slot.unset).toArray = ls at hl ⊢
  have hl : lv_has ls 4 [(0, .ref h0), (1, .int x1), (2, .int x2), (3, .int (bI x3))] := hl
  refine lv_iload_n hx hb dX0_mayPass_0 rfl (lv_at hl 1 rfl) ?_
  refine kc_S [.int x1] [] ⟨hx, hb, hml, hown, hts⟩ (cX_isPlain l x1) (cwS 1 hts gX0_mayPass_X0_isPlain rfl rfl rfl (by decide +kernel) ⟨(Nat.le_of_ble_eq_true rfl), (Nat.le_of_ble_eq_true rfl)⟩) rfl hl.1 rfl (Nat.le_of_ble_eq_true rfl) dX0_mayPass_1 ⟨Nat.zero_le _, Nat.zero_le _⟩ ?_
  refine lv_if_eq (tgt := 44) hx hb dX0_mayPass_4 (by decide) (fun c4 => ?_) (fun c4 => ?_)
  · refine lv_iload_n hx hb dX0_mayPass_44 rfl (lv_at hl 2 rfl) ?_
    refine kc_S [.int x2] [] ⟨hx, hb, hml, hown, hts⟩ (cX_isPlain l x2) (cwS 1 hts gX0_mayPass_X0_isPlain rfl rfl rfl (by decide +kernel) ⟨(Nat.le_of_ble_eq_true rfl), (Nat.le_of_ble_eq_true rfl)⟩) rfl hl.1 rfl (Nat.le_of_ble_eq_true rfl) dX0_mayPass_45 ⟨Nat.zero_le _, Nat.zero_le _⟩ ?_
    refine lv_if_ne (tgt := 53) hx hb dX0_mayPass_48 (by decide) (fun c48 => ?_) (fun c48 => ?_)
    · refine lv_iload_n hx hb dX0_mayPass_53 rfl (lv_at hl 3 rfl) ?_
      refine lv_if_eq (tgt := 84) hx hb dX0_mayPass_54 (by decide) (fun c54 => ?_) (fun c54 => ?_)
      · refine lv_iload_n hx hb dX0_mayPass_84 rfl (lv_at hl 1 rfl) ?_
        refine lv_iload_n hx hb dX0_mayPass_85 rfl (lv_at hl 2 rfl) ?_
        refine kc_S [.int x1, .int x2] [] ⟨hx, hb, hml, hown, hts⟩ (cX_mayUnbox l x1 x2) (cwS 2 hts gX0_mayPass_X0_mayUnbox rfl rfl rfl (by decide +kernel) ⟨(Nat.le_of_ble_eq_true rfl), (Nat.le_of_ble_eq_true rfl)⟩) rfl hl.1 rfl (Nat.le_of_ble_eq_true rfl) dX0_mayPass_86 ⟨Nat.zero_le _, Nat.zero_le _⟩ ?_
        exact W.zret hx hb hr (bI_nar (fX_mayUnbox x1 x2)) (fun t ht hW => ⟨by rw [fX_mayPass, if_pos c4, if_neg c48, if_pos c54] <;> rfl, ht⟩) (fun _ h => by cases h) dX0_mayPass_89
      · refine lv_iload_n hx hb dX0_mayPass_57 rfl (lv_at hl 1 rfl) ?_
        refine lv_bipush (v := 7) hx hb dX0_mayPass_58 (by decide) ?_
        refine lv_icmp_eq (tgt := 76) hx hb dX0_mayPass_60 (by decide) (fun c60 => ?_) (fun c60 => ?_)
        · refine lv_iconst (v := 1) hx hb dX0_mayPass_76 (by decide) ?_
          refine lv_goto (tgt := 89) hx hb dX0_mayPass_77 (by decide) ?_
          exact W.zret hx hb hr rfl (fun t ht hW => ⟨by rw [fX_mayPass, if_pos c4, if_neg c48, if_neg c54, if_pos c60] <;> rfl, ht⟩) (fun _ h => by cases h) dX0_mayPass_89
        · refine lv_iload_n hx hb dX0_mayPass_63 rfl (lv_at hl 1 rfl) ?_
          refine lv_bipush (v := 8) hx hb dX0_mayPass_64 (by decide) ?_
          refine lv_icmp_eq (tgt := 76) hx hb dX0_mayPass_66 (by decide) (fun c66 => ?_) (fun c66 => ?_)
          · refine lv_iconst (v := 1) hx hb dX0_mayPass_76 (by decide) ?_
            refine lv_goto (tgt := 89) hx hb dX0_mayPass_77 (by decide) ?_
            exact W.zret hx hb hr rfl (fun t ht hW => ⟨by rw [fX_mayPass, if_pos c4, if_neg c48, if_neg c54, if_neg c60, if_pos c66] <;> rfl, ht⟩) (fun _ h => by cases h) dX0_mayPass_89
          · refine lv_iload_n hx hb dX0_mayPass_69 rfl (lv_at hl 1 rfl) ?_
            refine kc_S [.int x1] [] ⟨hx, hb, hml, hown, hts⟩ (cX_isBox l x1) (cwS 1 hts gX0_mayPass_X0_isBox rfl rfl rfl (by decide +kernel) ⟨(Nat.le_of_ble_eq_true rfl), (Nat.le_of_ble_eq_true rfl)⟩) rfl hl.1 rfl (Nat.le_of_ble_eq_true rfl) dX0_mayPass_70 ⟨Nat.zero_le _, Nat.zero_le _⟩ ?_
            refine lv_if_eq (tgt := 80) hx hb dX0_mayPass_73 (by decide) (fun c73 => ?_) (fun c73 => ?_)
            · refine lv_iconst (v := 0) hx hb dX0_mayPass_80 (by decide) ?_
              refine lv_goto (tgt := 89) hx hb dX0_mayPass_81 (by decide) ?_
              exact W.zret hx hb hr rfl (fun t ht hW => ⟨by rw [fX_mayPass, if_pos c4, if_neg c48, if_neg c54, if_neg c60, if_neg c66, if_pos c73] <;> rfl, ht⟩) (fun _ h => by cases h) dX0_mayPass_89
            · refine lv_iconst (v := 1) hx hb dX0_mayPass_76 (by decide) ?_
              refine lv_goto (tgt := 89) hx hb dX0_mayPass_77 (by decide) ?_
              exact W.zret hx hb hr rfl (fun t ht hW => ⟨by rw [fX_mayPass, if_pos c4, if_neg c48, if_neg c54, if_neg c60, if_neg c66, if_neg c73] <;> rfl, ht⟩) (fun _ h => by cases h) dX0_mayPass_89
    · refine lv_iconst (v := 1) hx hb dX0_mayPass_51 (by decide) ?_
      exact W.zret hx hb hr rfl (fun t ht hW => ⟨by rw [fX_mayPass, if_pos c4, if_pos c48] <;> rfl, ht⟩) (fun _ h => by cases h) dX0_mayPass_52
  · refine lv_iload_n hx hb dX0_mayPass_7 rfl (lv_at hl 2 rfl) ?_
    refine kc_S [.int x2] [] ⟨hx, hb, hml, hown, hts⟩ (cX_isPlain l x2) (cwS 1 hts gX0_mayPass_X0_isPlain rfl rfl rfl (by decide +kernel) ⟨(Nat.le_of_ble_eq_true rfl), (Nat.le_of_ble_eq_true rfl)⟩) rfl hl.1 rfl (Nat.le_of_ble_eq_true rfl) dX0_mayPass_8 ⟨Nat.zero_le _, Nat.zero_le _⟩ ?_
    refine lv_if_eq (tgt := 34) hx hb dX0_mayPass_11 (by decide) (fun c11 => ?_) (fun c11 => ?_)
    · refine lv_aload_n hx hb dX0_mayPass_34 rfl (lv_at hl 0 rfl) ?_
      refine lv_iload_n hx hb dX0_mayPass_35 rfl (lv_at hl 1 rfl) ?_
      refine lv_bipush (v := 8) hx hb dX0_mayPass_36 (by decide) ?_
      refine lv_iadd hx hb dX0_mayPass_38 ?_
      refine lv_iload_n hx hb dX0_mayPass_39 rfl (lv_at hl 2 rfl) ?_
      refine kc_R [.int (x1 + (8 : Int32)), .int x2] [] ⟨hx, hb, hml, hown, hts⟩ (cX_isBelow l dC dI h0 qa qr qt cI cJ av nk rv nr tv nt pk pn bl (x1 + (8 : Int32)) x2 hAV hnk (kpl_in hnk.1 c4) hx2) (cwV 2 hts gX0_mayPass_X0_isBelow rfl rfl rfl (by decide +kernel) ⟨(Nat.le_of_ble_eq_true rfl), (Nat.le_of_ble_eq_true rfl)⟩) hP hK (ci := 0) (q0 := 0) rfl rfl rfl rfl hl.1 rfl (Nat.le_of_ble_eq_true rfl) dX0_mayPass_40 ⟨Nat.zero_le _, Nat.zero_le _⟩ ?_
      exact W.zret hx hb hr (bI_nar (blI bl (x1 + (8 : Int32)) x2)) (fun t ht hW => ⟨by rw [fX_mayPass, if_neg c4, if_pos c11] <;> rfl, ht⟩) (fun _ h => by cases h) dX0_mayPass_43
    · refine lv_iload_n hx hb dX0_mayPass_14 rfl (lv_at hl 3 rfl) ?_
      refine lv_if_ne (tgt := 26) hx hb dX0_mayPass_15 (by decide) (fun c15 => ?_) (fun c15 => ?_)
      · refine lv_iconst (v := 1) hx hb dX0_mayPass_26 (by decide) ?_
        refine lv_goto (tgt := 43) hx hb dX0_mayPass_27 (by decide) ?_
        exact W.zret hx hb hr rfl (fun t ht hW => ⟨by rw [fX_mayPass, if_neg c4, if_neg c11, if_neg c15] <;> rfl, ht⟩) (fun _ h => by cases h) dX0_mayPass_43
      · refine lv_iload_n hx hb dX0_mayPass_18 rfl (lv_at hl 1 rfl) ?_
        refine lv_iload_n hx hb dX0_mayPass_19 rfl (lv_at hl 2 rfl) ?_
        refine kc_S [.int x1, .int x2] [] ⟨hx, hb, hml, hown, hts⟩ (cX_mayWiden l x1 x2) (cwS 2 hts gX0_mayPass_X0_mayWiden rfl rfl rfl (by decide +kernel) ⟨(Nat.le_of_ble_eq_true rfl), (Nat.le_of_ble_eq_true rfl)⟩) rfl hl.1 rfl (Nat.le_of_ble_eq_true rfl) dX0_mayPass_20 ⟨Nat.zero_le _, Nat.zero_le _⟩ ?_
        refine lv_if_eq (tgt := 30) hx hb dX0_mayPass_23 (by decide) (fun c23 => ?_) (fun c23 => ?_)
        · refine lv_iconst (v := 0) hx hb dX0_mayPass_30 (by decide) ?_
          refine lv_goto (tgt := 43) hx hb dX0_mayPass_31 (by decide) ?_
          exact W.zret hx hb hr rfl (fun t ht hW => ⟨by rw [fX_mayPass, if_neg c4, if_neg c11, if_pos c15, if_pos c23] <;> rfl, ht⟩) (fun _ h => by cases h) dX0_mayPass_43
        · refine lv_iconst (v := 1) hx hb dX0_mayPass_26 (by decide) ?_
          refine lv_goto (tgt := 43) hx hb dX0_mayPass_27 (by decide) ?_
          exact W.zret hx hb hr rfl (fun t ht hW => ⟨by rw [fX_mayPass, if_neg c4, if_neg c11, if_pos c15, if_neg c23] <;> rfl, ht⟩) (fun _ h => by cases h) dX0_mayPass_43
def fX_may (nk : Nat) (bl : Nat → Nat → Bool) (x1 : Int32) (x2 : Int32) (x3 : Bool) (x4 : Bool) : Bool := if (bI (fX_isKind nk x1)) = 0 then false else if (bI (fX_isKind nk x2)) = 0 then false else if x1 = 0 then x4 else if x2 = 0 then x4 else (fX_mayPass bl x1 x2 x3)
set_option maxHeartbeats 4000000 in
set_option maxRecDepth 100000 in
theorem cX_may (l : Launch) (dC : Nat → ClassId) (dI : Nat → Nat → Nat) (h0 qa qr qt : Nat) (cI cJ : ClassId) (av : Nat → Int32) (nk : Nat) (rv : Nat → Int32) (nr : Nat) (tv : Nat → Int64) (nt : Nat) (pk : Int32) (pn : Int64) (bl : Nat → Nat → Bool) (x1 : Int32) (x2 : Int32) (x3 : Bool) (x4 : Bool) (hAV : kAV bl av nk) (hnk : 20 ≤ nk ∧ nk ≤ 32) : Met l yX0_may wsX0_may ({ frames := 3, cells := 0, slots := 0, locals := 65 }) (kPr (dC, dI) vwCl [(cI, .int), (cJ, .long)] (xW h0 qa qr qt cI cJ av nk rv nr tv nt pk pn) [.ref h0, .int x1, .int x2, .int (bI x3), .int (bI x4)]) (k2_QcV (.int (bI (fX_may nk bl x1 x2 x3 x4)))) 0 0 kNo := by
  refine Met.ofW (cc := cX0_may) (maxL := 5) (ret := (some .boolean)) (by decide) rfl ?_
  intro p e s m args below meth c s₁ B hml hv
  obtain ⟨rfl, hP, hK⟩ := hv
  have hx := B.exec
  have hb := B.bytes
  have hr := B.returns
  have hts := atoms_spec (ws := wsX0_may) B.pre
  have hown : s.vm.findClass RX0 = some m.cls := findClass_of_methodNamed B.named
  have hlocks := B.notSynchronized
  have hl := lv_entry ([.ref h0, .int x1, .int x2, .int (bI x3), .int (bI x4)]) (n := 5) (Nat.le_of_ble_eq_true rfl)
  rw [lg_entry_eq]
  generalize (lg_sl ([.ref h0, .int x1, .int x2, .int (bI x3), .int (bI x4)]) ++ List.replicate (5 - (lg_sl ([.ref h0, .int x1, .int x2, .int (bI x3), .int (bI x4)])).length) Slot.unset).toArray = ls at hl ⊢
  have hl : lv_has ls 5 [(0, .ref h0), (1, .int x1), (2, .int x2), (3, .int (bI x3)), (4, .int (bI x4))] := hl
  refine lv_aload_n hx hb dX0_may_0 rfl (lv_at hl 0 rfl) ?_
  refine lv_iload_n hx hb dX0_may_1 rfl (lv_at hl 1 rfl) ?_
  refine kc_R [.int x1] [] ⟨hx, hb, hml, hown, hts⟩ (cX_isKind l dC dI h0 qa qr qt cI cJ av nk rv nr tv nt pk pn x1) (cwV 1 hts gX0_may_X0_isKind rfl rfl rfl (by decide +kernel) ⟨(Nat.le_of_ble_eq_true rfl), (Nat.le_of_ble_eq_true rfl)⟩) hP hK (ci := 0) (q0 := 0) rfl rfl rfl rfl hl.1 rfl (Nat.le_of_ble_eq_true rfl) dX0_may_2 ⟨Nat.zero_le _, Nat.zero_le _⟩ ?_
  refine lv_if_eq (tgt := 16) hx hb dX0_may_5 (by decide) (fun c5 => ?_) (fun c5 => ?_)
  · refine lv_iconst (v := 0) hx hb dX0_may_16 (by decide) ?_
    exact W.zret hx hb hr rfl (fun t ht hW => ⟨by rw [fX_may, if_pos c5] <;> rfl, ht⟩) (fun _ h => by cases h) dX0_may_17
  · refine lv_aload_n hx hb dX0_may_8 rfl (lv_at hl 0 rfl) ?_
    refine lv_iload_n hx hb dX0_may_9 rfl (lv_at hl 2 rfl) ?_
    refine kc_R [.int x2] [] ⟨hx, hb, hml, hown, hts⟩ (cX_isKind l dC dI h0 qa qr qt cI cJ av nk rv nr tv nt pk pn x2) (cwV 1 hts gX0_may_X0_isKind rfl rfl rfl (by decide +kernel) ⟨(Nat.le_of_ble_eq_true rfl), (Nat.le_of_ble_eq_true rfl)⟩) hP hK (ci := 0) (q0 := 0) rfl rfl rfl rfl hl.1 rfl (Nat.le_of_ble_eq_true rfl) dX0_may_10 ⟨Nat.zero_le _, Nat.zero_le _⟩ ?_
    refine lv_if_ne (tgt := 18) hx hb dX0_may_13 (by decide) (fun c13 => ?_) (fun c13 => ?_)
    · refine lv_iload_n hx hb dX0_may_18 rfl (lv_at hl 1 rfl) ?_
      refine lv_if_eq (tgt := 26) hx hb dX0_may_19 (by decide) (fun c19 => ?_) (fun c19 => ?_)
      · refine lv_iload hx hb dX0_may_26 (lv_at hl 4 rfl) ?_
        exact W.zret hx hb hr (bI_nar x4) (fun t ht hW => ⟨by rw [fX_may, if_neg c5, if_neg c13, if_pos c19] <;> rfl, ht⟩) (fun _ h => by cases h) dX0_may_28
      · refine lv_iload_n hx hb dX0_may_22 rfl (lv_at hl 2 rfl) ?_
        refine lv_if_ne (tgt := 29) hx hb dX0_may_23 (by decide) (fun c23 => ?_) (fun c23 => ?_)
        · refine lv_aload_n hx hb dX0_may_29 rfl (lv_at hl 0 rfl) ?_
          refine lv_iload_n hx hb dX0_may_30 rfl (lv_at hl 1 rfl) ?_
          refine lv_iload_n hx hb dX0_may_31 rfl (lv_at hl 2 rfl) ?_
          refine lv_iload_n hx hb dX0_may_32 rfl (lv_at hl 3 rfl) ?_
          refine kc_R [.int x1, .int x2, .int (bI x3)] [] ⟨hx, hb, hml, hown, hts⟩ (cX_mayPass l dC dI h0 qa qr qt cI cJ av nk rv nr tv nt pk pn bl x1 x2 x3 hAV hnk (vp_in_mono (kK_in hnk.2 c13) hnk.2)) (cwV 3 hts gX0_may_X0_mayPass rfl rfl rfl (by decide +kernel) ⟨(Nat.le_of_ble_eq_true rfl), (Nat.le_of_ble_eq_true rfl)⟩) hP hK (ci := 0) (q0 := 0) rfl rfl rfl rfl hl.1 rfl (Nat.le_of_ble_eq_true rfl) dX0_may_33 ⟨Nat.zero_le _, Nat.zero_le _⟩ ?_
          exact W.zret hx hb hr (bI_nar (fX_mayPass bl x1 x2 x3)) (fun t ht hW => ⟨by rw [fX_may, if_neg c5, if_neg c13, if_neg c19, if_neg c23] <;> rfl, ht⟩) (fun _ h => by cases h) dX0_may_36
        · refine lv_iload hx hb dX0_may_26 (lv_at hl 4 rfl) ?_
          exact W.zret hx hb hr (bI_nar x4) (fun t ht hW => ⟨by rw [fX_may, if_neg c5, if_neg c13, if_neg c19, if_pos c23] <;> rfl, ht⟩) (fun _ h => by cases h) dX0_may_28
    · refine lv_iconst (v := 0) hx hb dX0_may_16 (by decide) ?_
      exact W.zret hx hb hr rfl (fun t ht hW => ⟨by rw [fX_may, if_neg c5, if_pos c13] <;> rfl, ht⟩) (fun _ h => by cases h) dX0_may_17
def fX_below (nk : Nat) (bl : Nat → Nat → Bool) (x1 : Int32) (x2 : Int32) : Bool := if (bI (fX_isKind nk x1)) = 0 then false else if (bI (fX_isKind nk x2)) = 0 then false else if (bI (blI bl x1 x2)) = 0 then false else true
set_option maxHeartbeats 4000000 in
set_option maxRecDepth 100000 in
theorem cX_below (l : Launch) (dC : Nat → ClassId) (dI : Nat → Nat → Nat) (h0 qa qr qt : Nat) (cI cJ : ClassId) (av : Nat → Int32) (nk : Nat) (rv : Nat → Int32) (nr : Nat) (tv : Nat → Int64) (nt : Nat) (pk : Int32) (pn : Int64) (bl : Nat → Nat → Bool) (x1 : Int32) (x2 : Int32) (hAV : kAV bl av nk) (hnk : 20 ≤ nk ∧ nk ≤ 32) : Met l yX0_below wsX0_below ({ frames := 1, cells := 0, slots := 0, locals := 22 }) (kPr (dC, dI) vwCl [(cI, .int), (cJ, .long)] (xW h0 qa qr qt cI cJ av nk rv nr tv nt pk pn) [.ref h0, .int x1, .int x2]) (k2_QcV (.int (bI (fX_below nk bl x1 x2)))) 0 0 kNo := by
  refine Met.ofW (cc := cX0_below) (maxL := 3) (ret := (some .boolean)) (by decide) rfl ?_
  intro p e s m args below meth c s₁ B hml hv
  obtain ⟨rfl, hP, hK⟩ := hv
  have hx := B.exec
  have hb := B.bytes
  have hr := B.returns
  have hts := atoms_spec (ws := wsX0_below) B.pre
  have hown : s.vm.findClass RX0 = some m.cls := findClass_of_methodNamed B.named
  have hlocks := B.notSynchronized
  have hl := lv_entry ([.ref h0, .int x1, .int x2]) (n := 3) (Nat.le_of_ble_eq_true rfl)
  rw [lg_entry_eq]
  generalize (lg_sl ([.ref h0, .int x1, .int x2]) ++ List.replicate (3 - (lg_sl ([.ref h0, .int x1, .int x2])).length) Slot.unset).toArray = ls at hl ⊢
  have hl : lv_has ls 3 [(0, .ref h0), (1, .int x1), (2, .int x2)] := hl
  refine lv_aload_n hx hb dX0_below_0 rfl (lv_at hl 0 rfl) ?_
  refine lv_iload_n hx hb dX0_below_1 rfl (lv_at hl 1 rfl) ?_
  refine kc_R [.int x1] [] ⟨hx, hb, hml, hown, hts⟩ (cX_isKind l dC dI h0 qa qr qt cI cJ av nk rv nr tv nt pk pn x1) (cwV 1 hts gX0_below_X0_isKind rfl rfl rfl (by decide +kernel) ⟨(Nat.le_of_ble_eq_true rfl), (Nat.le_of_ble_eq_true rfl)⟩) hP hK (ci := 0) (q0 := 0) rfl rfl rfl rfl hl.1 rfl (Nat.le_of_ble_eq_true rfl) dX0_below_2 ⟨Nat.zero_le _, Nat.zero_le _⟩ ?_
  refine lv_if_eq (tgt := 29) hx hb dX0_below_5 (by decide) (fun c5 => ?_) (fun c5 => ?_)
  · refine lv_iconst (v := 0) hx hb dX0_below_29 (by decide) ?_
    exact W.zret hx hb hr rfl (fun t ht hW => ⟨by rw [fX_below, if_pos c5] <;> rfl, ht⟩) (fun _ h => by cases h) dX0_below_30
  · refine lv_aload_n hx hb dX0_below_8 rfl (lv_at hl 0 rfl) ?_
    refine lv_iload_n hx hb dX0_below_9 rfl (lv_at hl 2 rfl) ?_
    refine kc_R [.int x2] [] ⟨hx, hb, hml, hown, hts⟩ (cX_isKind l dC dI h0 qa qr qt cI cJ av nk rv nr tv nt pk pn x2) (cwV 1 hts gX0_below_X0_isKind rfl rfl rfl (by decide +kernel) ⟨(Nat.le_of_ble_eq_true rfl), (Nat.le_of_ble_eq_true rfl)⟩) hP hK (ci := 0) (q0 := 0) rfl rfl rfl rfl hl.1 rfl (Nat.le_of_ble_eq_true rfl) dX0_below_10 ⟨Nat.zero_le _, Nat.zero_le _⟩ ?_
    refine lv_if_eq (tgt := 29) hx hb dX0_below_13 (by decide) (fun c13 => ?_) (fun c13 => ?_)
    · refine lv_iconst (v := 0) hx hb dX0_below_29 (by decide) ?_
      exact W.zret hx hb hr rfl (fun t ht hW => ⟨by rw [fX_below, if_neg c5, if_pos c13] <;> rfl, ht⟩) (fun _ h => by cases h) dX0_below_30
    · refine lv_aload_n hx hb dX0_below_16 rfl (lv_at hl 0 rfl) ?_
      refine lv_iload_n hx hb dX0_below_17 rfl (lv_at hl 1 rfl) ?_
      refine lv_iload_n hx hb dX0_below_18 rfl (lv_at hl 2 rfl) ?_
      refine kc_R [.int x1, .int x2] [] ⟨hx, hb, hml, hown, hts⟩ (cX_isBelow l dC dI h0 qa qr qt cI cJ av nk rv nr tv nt pk pn bl x1 x2 hAV hnk (kK_in hnk.2 c5) (vp_in_mono (kK_in hnk.2 c13) hnk.2)) (cwV 2 hts gX0_below_X0_isBelow rfl rfl rfl (by decide +kernel) ⟨(Nat.le_of_ble_eq_true rfl), (Nat.le_of_ble_eq_true rfl)⟩) hP hK (ci := 0) (q0 := 0) rfl rfl rfl rfl hl.1 rfl (Nat.le_of_ble_eq_true rfl) dX0_below_19 ⟨Nat.zero_le _, Nat.zero_le _⟩ ?_
      refine lv_if_eq (tgt := 29) hx hb dX0_below_22 (by decide) (fun c22 => ?_) (fun c22 => ?_)
      · refine lv_iconst (v := 0) hx hb dX0_below_29 (by decide) ?_
        exact W.zret hx hb hr rfl (fun t ht hW => ⟨by rw [fX_below, if_neg c5, if_neg c13, if_pos c22] <;> rfl, ht⟩) (fun _ h => by cases h) dX0_below_30
      · refine lv_iconst (v := 1) hx hb dX0_below_25 (by decide) ?_
        refine lv_goto (tgt := 30) hx hb dX0_below_26 (by decide) ?_
        exact W.zret hx hb hr rfl (fun t ht hW => ⟨by rw [fX_below, if_neg c5, if_neg c13, if_neg c22] <;> rfl, ht⟩) (fun _ h => by cases h) dX0_below_30
def fX_typeAbout (tv : Nat → Int64) (nt : Nat) (x1 : Int32) (x2 : Int32) : Int32 := if (bI (fX_isType nt x1)) = 0 then (-1 : Int32) else if x2 = (-1 : Int32) then fX_resultOf (tv x1.toNatClampNeg) else if x2 = (-2 : Int32) then fX_placesOf (tv x1.toNatClampNeg) else if x2 < 0 then (-1 : Int32) else if (fX_placesOf (tv x1.toNatClampNeg)) ≤ x2 then (-1 : Int32) else fX_placeOf (tv x1.toNatClampNeg) x2
set_option maxHeartbeats 4000000 in
set_option maxRecDepth 100000 in
theorem cX_typeAbout (l : Launch) (dC : Nat → ClassId) (dI : Nat → Nat → Nat) (h0 qa qr qt : Nat) (cI cJ : ClassId) (av : Nat → Int32) (nk : Nat) (rv : Nat → Int32) (nr : Nat) (tv : Nat → Int64) (nt : Nat) (pk : Int32) (pn : Int64) (x1 : Int32) (x2 : Int32) (hnt : nt ≤ 300) : Met l yX0_typeAbout wsX0_typeAbout ({ frames := 2, cells := 0, slots := 0, locals := 42 }) (kPr (dC, dI) vwCl [(cI, .int), (cJ, .long)] (xW h0 qa qr qt cI cJ av nk rv nr tv nt pk pn) [.ref h0, .int x1, .int x2]) (k2_QcV (.int (fX_typeAbout tv nt x1 x2))) 0 0 kNo := by
  refine Met.ofW (cc := cX0_typeAbout) (maxL := 5) (ret := (some .int)) (by decide) rfl ?_
  intro p e s m args below meth c s₁ B hml hv
  obtain ⟨rfl, hP, hK⟩ := hv
  have hx := B.exec
  have hb := B.bytes
  have hr := B.returns
  have hts := atoms_spec (ws := wsX0_typeAbout) B.pre
  have hown : s.vm.findClass RX0 = some m.cls := findClass_of_methodNamed B.named
  have hlocks := B.notSynchronized
  have hin : ∀ w ∈ u_ws RX0 TX0 8, w ∈ wsX0_typeAbout := by decide +kernel
  have hl := lv_entry ([.ref h0, .int x1, .int x2]) (n := 5) (Nat.le_of_ble_eq_true rfl)
  rw [lg_entry_eq]
  generalize (lg_sl ([.ref h0, .int x1, .int x2]) ++ List.replicate (5 - (lg_sl ([.ref h0, .int x1, .int x2])).length) Slot.unset).toArray = ls at hl ⊢
  have hl : lv_has ls 5 [(0, .ref h0), (1, .int x1), (2, .int x2)] := hl
  refine lv_aload_n hx hb dX0_typeAbout_0 rfl (lv_at hl 0 rfl) ?_
  refine lv_iload_n hx hb dX0_typeAbout_1 rfl (lv_at hl 1 rfl) ?_
  refine kc_R [.int x1] [] ⟨hx, hb, hml, hown, hts⟩ (cX_isType l dC dI h0 qa qr qt cI cJ av nk rv nr tv nt pk pn x1) (cwV 1 hts gX0_typeAbout_X0_isType rfl rfl rfl (by decide +kernel) ⟨(Nat.le_of_ble_eq_true rfl), (Nat.le_of_ble_eq_true rfl)⟩) hP hK (ci := 0) (q0 := 0) rfl rfl rfl rfl hl.1 rfl (Nat.le_of_ble_eq_true rfl) dX0_typeAbout_2 ⟨Nat.zero_le _, Nat.zero_le _⟩ ?_
  refine lv_if_ne (tgt := 10) hx hb dX0_typeAbout_5 (by decide) (fun c5 => ?_) (fun c5 => ?_)
  · refine lv_aload_n hx hb dX0_typeAbout_10 rfl (lv_at hl 0 rfl) ?_
    refine va_get (D := (dC, dI)) (ci := 0) (v := .ref qt) (C := RX0) (T := TX0) (N := 8) hx hb hts hin hown hK hP 0 rfl rfl 4 (by decide) (hts (.fieldLink RX0 27 "KindTable" "types" "[J") (by decide +kernel)) (fun _ h9 => h9) rfl dX0_typeAbout_11 ?_
    refine lv_iload_n hx hb dX0_typeAbout_14 rfl (lv_at hl 1 rfl) ?_
    refine va_lald hx hb hK hP 3 1 rfl rfl (vp_in_mono (kT_in hnt c5) hnt) dX0_typeAbout_15 ?_
    refine lv_lstore_n (lv' := [(3, .long (tv x1.toNatClampNeg)), (0, .ref h0), (1, .int x1), (2, .int x2)]) hx hb dX0_typeAbout_16 rfl hl (by decide) rfl (fun ls hl => ?_)
    refine lv_iload_n hx hb dX0_typeAbout_17 rfl (lv_at hl 3 rfl) ?_
    refine lv_iconst (v := -1) hx hb dX0_typeAbout_18 (by decide) ?_
    refine lv_icmp_ne (tgt := 27) hx hb dX0_typeAbout_19 (by decide) (fun c19 => ?_) (fun c19 => ?_)
    · refine lv_iload_n hx hb dX0_typeAbout_27 rfl (lv_at hl 3 rfl) ?_
      refine lv_bipush (v := -2) hx hb dX0_typeAbout_28 (by decide) ?_
      refine lv_icmp_ne (tgt := 38) hx hb dX0_typeAbout_30 (by decide) (fun c30 => ?_) (fun c30 => ?_)
      · refine lv_iload_n hx hb dX0_typeAbout_38 rfl (lv_at hl 3 rfl) ?_
        refine lv_if_lt (tgt := 58) hx hb dX0_typeAbout_39 (by decide) (fun c39 => ?_) (fun c39 => ?_)
        · refine lv_iconst (v := -1) hx hb dX0_typeAbout_58 (by decide) ?_
          exact W.iret hx hb hr (fun t ht hW => ⟨by rw [fX_typeAbout, if_neg c5, if_neg c19, if_neg c30, if_pos c39] <;> rfl, ht⟩) (fun _ h => by cases h) dX0_typeAbout_59
        · refine lv_iload_n hx hb dX0_typeAbout_42 rfl (lv_at hl 3 rfl) ?_
          refine lv_lload_n hx hb dX0_typeAbout_43 rfl (lv_at hl 0 rfl) ?_
          refine kc_S [.long (tv x1.toNatClampNeg)] [.int x2] ⟨hx, hb, hml, hown, hts⟩ (cX_placesOf l (tv x1.toNatClampNeg)) (cwS 1 hts gX0_typeAbout_X0_placesOf rfl rfl rfl (by decide +kernel) ⟨(Nat.le_of_ble_eq_true rfl), (Nat.le_of_ble_eq_true rfl)⟩) rfl hl.1 rfl (Nat.le_of_ble_eq_true rfl) dX0_typeAbout_44 ⟨Nat.zero_le _, Nat.zero_le _⟩ ?_
          refine lv_icmp_ge (tgt := 58) hx hb dX0_typeAbout_47 (by decide) (fun c47 => ?_) (fun c47 => ?_)
          · refine lv_iconst (v := -1) hx hb dX0_typeAbout_58 (by decide) ?_
            exact W.iret hx hb hr (fun t ht hW => ⟨by rw [fX_typeAbout, if_neg c5, if_neg c19, if_neg c30, if_neg c39, if_pos c47] <;> rfl, ht⟩) (fun _ h => by cases h) dX0_typeAbout_59
          · refine lv_lload_n hx hb dX0_typeAbout_50 rfl (lv_at hl 0 rfl) ?_
            refine lv_iload_n hx hb dX0_typeAbout_51 rfl (lv_at hl 3 rfl) ?_
            refine kc_S [.long (tv x1.toNatClampNeg), .int x2] [] ⟨hx, hb, hml, hown, hts⟩ (cX_placeOf l (tv x1.toNatClampNeg) x2) (cwS 2 hts gX0_typeAbout_X0_placeOf rfl rfl rfl (by decide +kernel) ⟨(Nat.le_of_ble_eq_true rfl), (Nat.le_of_ble_eq_true rfl)⟩) rfl hl.1 rfl (Nat.le_of_ble_eq_true rfl) dX0_typeAbout_52 ⟨Nat.zero_le _, Nat.zero_le _⟩ ?_
            refine lv_goto (tgt := 59) hx hb dX0_typeAbout_55 (by decide) ?_
            exact W.iret hx hb hr (fun t ht hW => ⟨by rw [fX_typeAbout, if_neg c5, if_neg c19, if_neg c30, if_neg c39, if_neg c47] <;> rfl, ht⟩) (fun _ h => by cases h) dX0_typeAbout_59
      · refine lv_lload_n hx hb dX0_typeAbout_33 rfl (lv_at hl 0 rfl) ?_
        refine kc_S [.long (tv x1.toNatClampNeg)] [] ⟨hx, hb, hml, hown, hts⟩ (cX_placesOf l (tv x1.toNatClampNeg)) (cwS 1 hts gX0_typeAbout_X0_placesOf rfl rfl rfl (by decide +kernel) ⟨(Nat.le_of_ble_eq_true rfl), (Nat.le_of_ble_eq_true rfl)⟩) rfl hl.1 rfl (Nat.le_of_ble_eq_true rfl) dX0_typeAbout_34 ⟨Nat.zero_le _, Nat.zero_le _⟩ ?_
        exact W.iret hx hb hr (fun t ht hW => ⟨by rw [fX_typeAbout, if_neg c5, if_neg c19, if_pos c30] <;> rfl, ht⟩) (fun _ h => by cases h) dX0_typeAbout_37
    · refine lv_lload_n hx hb dX0_typeAbout_22 rfl (lv_at hl 0 rfl) ?_
      refine kc_S [.long (tv x1.toNatClampNeg)] [] ⟨hx, hb, hml, hown, hts⟩ (cX_resultOf l (tv x1.toNatClampNeg)) (cwS 1 hts gX0_typeAbout_X0_resultOf rfl rfl rfl (by decide +kernel) ⟨(Nat.le_of_ble_eq_true rfl), (Nat.le_of_ble_eq_true rfl)⟩) rfl hl.1 rfl (Nat.le_of_ble_eq_true rfl) dX0_typeAbout_23 ⟨Nat.zero_le _, Nat.zero_le _⟩ ?_
      exact W.iret hx hb hr (fun t ht hW => ⟨by rw [fX_typeAbout, if_neg c5, if_pos c19] <;> rfl, ht⟩) (fun _ h => by cases h) dX0_typeAbout_26
  · refine lv_iconst (v := -1) hx hb dX0_typeAbout_8 (by decide) ?_
    exact W.iret hx hb hr (fun t ht hW => ⟨by rw [fX_typeAbout, if_pos c5] <;> rfl, ht⟩) (fun _ h => by cases h) dX0_typeAbout_9
theorem kmay_in {nk : Nat} {bl : Nat → Nat → Bool} {x y : Int32} {f e : Bool} (hn : nk ≤ 32) (h : ¬ bI (fX_may nk bl x y f e) = 0) : vp_in x nk ∧ vp_in y nk := by
  by_cases c : bI (fX_isKind nk x) = 0
  · exact absurd (by rw [fX_may, if_pos c]; rfl) h
  · by_cases c2 : bI (fX_isKind nk y) = 0
    · exact absurd (by rw [fX_may, if_neg c, if_pos c2]; rfl) h
    · exact ⟨kK_in hn c, kK_in hn c2⟩
theorem meet_bit {bl : Nat → Nat → Bool} {av : Nat → Int32} {nk q : Nat} (h : kAV bl av nk) (hn : nk ≤ 32) {x y : Int32} (hx : vp_in x nk) (hy : vp_in y nk) (hq : q < 32) : ((((av x.toNatClampNeg) &&& (av y.toNatClampNeg)).toUInt32 >>> ((nI q).toUInt32 &&& Int32.toUInt32 31)).toInt32 &&& 1 = 0) ↔ (bl x.toNatClampNeg q && bl y.toNatClampNeg q) = false := by
  obtain ⟨i, hi, rfl⟩ := vp_in_of hx (by omega)
  obtain ⟨j, hj, rfl⟩ := vp_in_of hy (by omega)
  rw [k_and1, b_ushr q hq, Nat.add_zero, nI_clamp (by omega), nI_clamp (by omega), b_and, h i hi q hq, h j hj q hq]

