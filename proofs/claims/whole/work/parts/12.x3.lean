set_option maxHeartbeats 4000000 in
set_option maxRecDepth 100000 in
theorem cX_keep (l : Launch) (dC : Nat → ClassId) (dI : Nat → Nat → Nat) (h0 qa qr qt : Nat) (cI cJ : ClassId) (av : Nat → Int32) (nk : Nat) (rv : Nat → Int32) (nr : Nat) (tv : Nat → Int64) (nt : Nat) (pk : Int32) (pn : Int64) (x1 : Int32) (x2 : Int64) : Met l yX0_keep wsX0_keep ({ frames := 0, cells := 0, slots := 0, locals := 0 }) (kPw (dC, dI) vwCl [(cI, .int), (cJ, .long)] (xW h0 qa qr qt cI cJ av nk rv nr tv nt pk pn) [.ref h0, .int x1, .long x2]) (kQw (dC, dI) vwCl (some (.int (0 : Int32))) (xW h0 qa qr qt cI cJ av nk rv nr tv nt x1 x2) [h0, qa, qr, qt]) 0 0 (fun q => q ∈ [h0, qa, qr, qt]) := by
  refine Met.ofW (cc := cX0_keep) (maxL := 4) (ret := (some .int)) (by decide) rfl ?_
  intro p e s m args below meth c s₁ B hml hv
  obtain ⟨rfl, hP, hK, hD0⟩ := hv
  have hx := B.exec
  have hb := B.bytes
  have hr := B.returns
  have hts := atoms_spec (ws := wsX0_keep) B.pre
  have hown : s.vm.findClass RX0 = some m.cls := findClass_of_methodNamed B.named
  have hlocks := B.notSynchronized
  have hin : ∀ w ∈ u_ws RX0 TX0 8, w ∈ wsX0_keep := by decide +kernel
  have hD : va_D (fun q => q ∈ [h0, qa, qr, qt]) (xW h0 qa qr qt cI cJ av nk rv nr tv nt pk pn) := kD_self hD0 rfl
  have hS : va_S (fun q => q ∈ [h0, qa, qr, qt]) s.heap s.heap [] := va_S.rf
  have hl := lv_entry ([.ref h0, .int x1, .long x2]) (n := 4) (Nat.le_of_ble_eq_true rfl)
  rw [lg_entry_eq]
  generalize (lg_sl ([.ref h0, .int x1, .long x2]) ++ List.replicate (4 - (lg_sl ([.ref h0, .int x1, .long x2])).length) Slot.unset).toArray = ls at hl ⊢
  have hl : lv_has ls 4 [(0, .ref h0), (1, .int x1), (2, .long x2)] := hl
  refine lv_aload_n hx hb dX0_keep_0 rfl (lv_at hl 0 rfl) ?_
  refine lv_iload_n hx hb dX0_keep_1 rfl (lv_at hl 1 rfl) ?_
  refine va_put (D := (dC, dI)) (ci := 0) (v := .int x1) (ty := .int) (C := RX0) (T := TX0) (N := 8) hx hb hts hin tyX0 tyX0_ok nmX0 hown hK hP hD hS 0 rfl rfl 6 (by decide) (hts (.fieldLink RX0 34 "KindTable" "passedKind" "I") (by decide +kernel)) (fun _ h9 => h9) rfl (by decide +kernel) rfl rfl (Nat.le_of_ble_eq_true rfl) dX0_keep_2 (fun H locs hP hD hS => ?_)
  have hP : va_P (dC, dI) vwCl (xW h0 qa qr qt cI cJ av nk rv nr tv nt x1 pn) H := hP
  have hD : va_D _ (xW h0 qa qr qt cI cJ av nk rv nr tv nt x1 pn) := hD
  refine lv_aload_n hx hb dX0_keep_5 rfl (lv_at hl 0 rfl) ?_
  refine lv_lload_n hx hb dX0_keep_6 rfl (lv_at hl 2 rfl) ?_
  refine va_put (D := (dC, dI)) (ci := 0) (v := .long x2) (ty := .long) (C := RX0) (T := TX0) (N := 8) hx hb hts hin tyX0 tyX0_ok nmX0 hown hK hP hD hS 0 rfl rfl 7 (by decide) (hts (.fieldLink RX0 37 "KindTable" "passedNumber" "J") (by decide +kernel)) (fun _ h9 => h9) rfl (by decide +kernel) rfl rfl (Nat.le_of_ble_eq_true rfl) dX0_keep_7 (fun H locs hP hD hS => ?_)
  have hP : va_P (dC, dI) vwCl (xW h0 qa qr qt cI cJ av nk rv nr tv nt x1 x2) H := hP
  have hD : va_D _ (xW h0 qa qr qt cI cJ av nk rv nr tv nt x1 x2) := hD
  refine lv_iconst (v := 0) hx hb dX0_keep_10 (by decide) ?_
  exact W.iret hx hb hr (fun t ht hW => ⟨rfl, by rw [ht]; exact hP, hS.F ht⟩) hS.2.2 dX0_keep_11
def fX_passPlain  (x1 : Int32) (x2 : Int32) (x3 : Int64) : Int32 × Int32 × Int64 := if (bI (fX_isPlain x2)) = 0 then ((0 : Int32), (x1 + (8 : Int32)), x3) else ((0 : Int32), (0 : Int32), (fX_lowest x2 x3))
set_option maxHeartbeats 4000000 in
set_option maxRecDepth 100000 in
theorem cX_passPlain (l : Launch) (dC : Nat → ClassId) (dI : Nat → Nat → Nat) (h0 qa qr qt : Nat) (cI cJ : ClassId) (av : Nat → Int32) (nk : Nat) (rv : Nat → Int32) (nr : Nat) (tv : Nat → Int64) (nt : Nat) (pk : Int32) (pn : Int64) (x1 : Int32) (x2 : Int32) (x3 : Int64) : Met l yX0_passPlain wsX0_passPlain ({ frames := 1, cells := 0, slots := 0, locals := 23 }) (kPw (dC, dI) vwCl [(cI, .int), (cJ, .long)] (xW h0 qa qr qt cI cJ av nk rv nr tv nt pk pn) [.ref h0, .int x1, .int x2, .long x3]) (kQw (dC, dI) vwCl (some (.int ((fX_passPlain x1 x2 x3).1))) (xW h0 qa qr qt cI cJ av nk rv nr tv nt ((fX_passPlain x1 x2 x3).2.1) ((fX_passPlain x1 x2 x3).2.2)) [h0, qa, qr, qt]) 0 0 (fun q => q ∈ [h0, qa, qr, qt]) := by
  refine Met.ofW (cc := cX0_passPlain) (maxL := 5) (ret := (some .int)) (by decide) rfl ?_
  intro p e s m args below meth c s₁ B hml hv
  obtain ⟨rfl, hP, hK, hD0⟩ := hv
  have hx := B.exec
  have hb := B.bytes
  have hr := B.returns
  have hts := atoms_spec (ws := wsX0_passPlain) B.pre
  have hown : s.vm.findClass RX0 = some m.cls := findClass_of_methodNamed B.named
  have hlocks := B.notSynchronized
  have hD : va_D (fun q => q ∈ [h0, qa, qr, qt]) (xW h0 qa qr qt cI cJ av nk rv nr tv nt pk pn) := kD_self hD0 rfl
  have hS : va_S (fun q => q ∈ [h0, qa, qr, qt]) s.heap s.heap [] := va_S.rf
  have hl := lv_entry ([.ref h0, .int x1, .int x2, .long x3]) (n := 5) (Nat.le_of_ble_eq_true rfl)
  rw [lg_entry_eq]
  generalize (lg_sl ([.ref h0, .int x1, .int x2, .long x3]) ++ List.replicate (5 - (lg_sl ([.ref h0, .int x1, .int x2, .long x3])).length) Slot.unset).toArray = ls at hl ⊢
  have hl : lv_has ls 5 [(0, .ref h0), (1, .int x1), (2, .int x2), (3, .long x3)] := hl
  refine lv_iload_n hx hb dX0_passPlain_0 rfl (lv_at hl 2 rfl) ?_
  refine kc_S [.int x2] [] ⟨hx, hb, hml, hown, hts⟩ (cX_isPlain l x2) (cwS 1 hts gX0_passPlain_X0_isPlain rfl rfl rfl (by decide +kernel) ⟨(Nat.le_of_ble_eq_true rfl), (Nat.le_of_ble_eq_true rfl)⟩) rfl hl.1 rfl (Nat.le_of_ble_eq_true rfl) dX0_passPlain_1 ⟨Nat.zero_le _, Nat.zero_le _⟩ ?_
  refine lv_if_eq (tgt := 18) hx hb dX0_passPlain_4 (by decide) (fun c4 => ?_) (fun c4 => ?_)
  · refine lv_aload_n hx hb dX0_passPlain_18 rfl (lv_at hl 0 rfl) ?_
    refine lv_iload_n hx hb dX0_passPlain_19 rfl (lv_at hl 1 rfl) ?_
    refine lv_bipush (v := 8) hx hb dX0_passPlain_20 (by decide) ?_
    refine lv_iadd hx hb dX0_passPlain_22 ?_
    refine lv_lload_n hx hb dX0_passPlain_23 rfl (lv_at hl 3 rfl) ?_
    refine kc_W [.int (x1 + (8 : Int32)), .long x3] [] ⟨hx, hb, hml, hown, hts⟩ (cX_keep l dC dI h0 qa qr qt cI cJ av nk rv nr tv nt pk pn (x1 + (8 : Int32)) x3) (cwV 2 hts gX0_passPlain_X0_keep rfl rfl rfl (by decide +kernel) ⟨(Nat.le_of_ble_eq_true rfl), (Nat.le_of_ble_eq_true rfl)⟩) hP hK hD hS rfl (ci := 0) (q0 := 0) rfl rfl rfl rfl hl.1 rfl (Nat.le_of_ble_eq_true rfl) dX0_passPlain_24 ⟨Nat.zero_le _, Nat.zero_le _⟩ (fun H locs hP1 hS hk1 => ?_)
    have hP : va_P (dC, dI) vwCl (xW h0 qa qr qt cI cJ av nk rv nr tv nt (x1 + (8 : Int32)) x3) H := hP1
    have hD : va_D _ (xW h0 qa qr qt cI cJ av nk rv nr tv nt (x1 + (8 : Int32)) x3) := kD_same hD rfl
    exact W.iret hx hb hr (fun t ht hW => ⟨by rw [fX_passPlain, if_pos c4] <;> rfl, by rw [ht, fX_passPlain, if_pos c4]; exact hP, hS.F ht⟩) hS.2.2 dX0_passPlain_27
  · refine lv_aload_n hx hb dX0_passPlain_7 rfl (lv_at hl 0 rfl) ?_
    refine lv_iconst (v := 0) hx hb dX0_passPlain_8 (by decide) ?_
    refine lv_iload_n hx hb dX0_passPlain_9 rfl (lv_at hl 2 rfl) ?_
    refine lv_lload_n hx hb dX0_passPlain_10 rfl (lv_at hl 3 rfl) ?_
    refine kc_S [.int x2, .long x3] [.int 0, .ref h0] ⟨hx, hb, hml, hown, hts⟩ (cX_lowest l x2 x3) (cwS 2 hts gX0_passPlain_X0_lowest rfl rfl rfl (by decide +kernel) ⟨(Nat.le_of_ble_eq_true rfl), (Nat.le_of_ble_eq_true rfl)⟩) rfl hl.1 rfl (Nat.le_of_ble_eq_true rfl) dX0_passPlain_11 ⟨Nat.zero_le _, Nat.zero_le _⟩ ?_
    refine kc_W [.int 0, .long (fX_lowest x2 x3)] [] ⟨hx, hb, hml, hown, hts⟩ (cX_keep l dC dI h0 qa qr qt cI cJ av nk rv nr tv nt pk pn (0 : Int32) (fX_lowest x2 x3)) (cwV 2 hts gX0_passPlain_X0_keep rfl rfl rfl (by decide +kernel) ⟨(Nat.le_of_ble_eq_true rfl), (Nat.le_of_ble_eq_true rfl)⟩) hP hK hD hS rfl (ci := 0) (q0 := 0) rfl rfl rfl rfl hl.1 rfl (Nat.le_of_ble_eq_true rfl) dX0_passPlain_14 ⟨Nat.zero_le _, Nat.zero_le _⟩ (fun H locs hP1 hS hk1 => ?_)
    have hP : va_P (dC, dI) vwCl (xW h0 qa qr qt cI cJ av nk rv nr tv nt (0 : Int32) (fX_lowest x2 x3)) H := hP1
    have hD : va_D _ (xW h0 qa qr qt cI cJ av nk rv nr tv nt (0 : Int32) (fX_lowest x2 x3)) := kD_same hD rfl
    exact W.iret hx hb hr (fun t ht hW => ⟨by rw [fX_passPlain, if_neg c4] <;> rfl, by rw [ht, fX_passPlain, if_neg c4]; exact hP, hS.F ht⟩) hS.2.2 dX0_passPlain_17
def fX_passNull (pk : Int32) (pn : Int64) (x1 : Int32) (x2 : Bool) : Int32 × Int32 × Int64 := if (bI (fX_isPlain x1)) = 0 then ((0 : Int32), (0 : Int32), (0 : Int64)) else if (bI x2) = 0 then ((1 : Int32), pk, pn) else ((0 : Int32), (0 : Int32), (0 : Int64))
set_option maxHeartbeats 4000000 in
set_option maxRecDepth 100000 in
theorem cX_passNull (l : Launch) (dC : Nat → ClassId) (dI : Nat → Nat → Nat) (h0 qa qr qt : Nat) (cI cJ : ClassId) (av : Nat → Int32) (nk : Nat) (rv : Nat → Int32) (nr : Nat) (tv : Nat → Int64) (nt : Nat) (pk : Int32) (pn : Int64) (x1 : Int32) (x2 : Bool) : Met l yX0_passNull wsX0_passNull ({ frames := 1, cells := 0, slots := 0, locals := 23 }) (kPw (dC, dI) vwCl [(cI, .int), (cJ, .long)] (xW h0 qa qr qt cI cJ av nk rv nr tv nt pk pn) [.ref h0, .int x1, .int (bI x2)]) (kQw (dC, dI) vwCl (some (.int ((fX_passNull pk pn x1 x2).1))) (xW h0 qa qr qt cI cJ av nk rv nr tv nt ((fX_passNull pk pn x1 x2).2.1) ((fX_passNull pk pn x1 x2).2.2)) [h0, qa, qr, qt]) 0 0 (fun q => q ∈ [h0, qa, qr, qt]) := by
  refine Met.ofW (cc := cX0_passNull) (maxL := 3) (ret := (some .int)) (by decide) rfl ?_
  intro p e s m args below meth c s₁ B hml hv
  obtain ⟨rfl, hP, hK, hD0⟩ := hv
  have hx := B.exec
  have hb := B.bytes
  have hr := B.returns
  have hts := atoms_spec (ws := wsX0_passNull) B.pre
  have hown : s.vm.findClass RX0 = some m.cls := findClass_of_methodNamed B.named
  have hlocks := B.notSynchronized
  have hD : va_D (fun q => q ∈ [h0, qa, qr, qt]) (xW h0 qa qr qt cI cJ av nk rv nr tv nt pk pn) := kD_self hD0 rfl
  have hS : va_S (fun q => q ∈ [h0, qa, qr, qt]) s.heap s.heap [] := va_S.rf
  have hl := lv_entry ([.ref h0, .int x1, .int (bI x2)]) (n := 3) (Nat.le_of_ble_eq_true rfl)
  rw [lg_entry_eq]
  generalize (lg_sl ([.ref h0, .int x1, .int (bI x2)]) ++ List.replicate (3 - (lg_sl ([.ref h0, .int x1, .int (bI x2)])).length) Slot.unset).toArray = ls at hl ⊢
  have hl : lv_has ls 3 [(0, .ref h0), (1, .int x1), (2, .int (bI x2))] := hl
  refine lv_iload_n hx hb dX0_passNull_0 rfl (lv_at hl 1 rfl) ?_
  refine kc_S [.int x1] [] ⟨hx, hb, hml, hown, hts⟩ (cX_isPlain l x1) (cwS 1 hts gX0_passNull_X0_isPlain rfl rfl rfl (by decide +kernel) ⟨(Nat.le_of_ble_eq_true rfl), (Nat.le_of_ble_eq_true rfl)⟩) rfl hl.1 rfl (Nat.le_of_ble_eq_true rfl) dX0_passNull_1 ⟨Nat.zero_le _, Nat.zero_le _⟩ ?_
  refine lv_if_eq (tgt := 13) hx hb dX0_passNull_4 (by decide) (fun c4 => ?_) (fun c4 => ?_)
  · refine lv_aload_n hx hb dX0_passNull_13 rfl (lv_at hl 0 rfl) ?_
    refine lv_iconst (v := 0) hx hb dX0_passNull_14 (by decide) ?_
    refine lv_lconst (v := 0) hx hb dX0_passNull_15 (by decide) ?_
    refine kc_W [.int 0, .long 0] [] ⟨hx, hb, hml, hown, hts⟩ (cX_keep l dC dI h0 qa qr qt cI cJ av nk rv nr tv nt pk pn (0 : Int32) (0 : Int64)) (cwV 2 hts gX0_passNull_X0_keep rfl rfl rfl (by decide +kernel) ⟨(Nat.le_of_ble_eq_true rfl), (Nat.le_of_ble_eq_true rfl)⟩) hP hK hD hS rfl (ci := 0) (q0 := 0) rfl rfl rfl rfl hl.1 rfl (Nat.le_of_ble_eq_true rfl) dX0_passNull_16 ⟨Nat.zero_le _, Nat.zero_le _⟩ (fun H locs hP1 hS hk1 => ?_)
    have hP : va_P (dC, dI) vwCl (xW h0 qa qr qt cI cJ av nk rv nr tv nt (0 : Int32) (0 : Int64)) H := hP1
    have hD : va_D _ (xW h0 qa qr qt cI cJ av nk rv nr tv nt (0 : Int32) (0 : Int64)) := kD_same hD rfl
    exact W.iret hx hb hr (fun t ht hW => ⟨by rw [fX_passNull, if_pos c4] <;> rfl, by rw [ht, fX_passNull, if_pos c4]; exact hP, hS.F ht⟩) hS.2.2 dX0_passNull_19
  · refine lv_iload_n hx hb dX0_passNull_7 rfl (lv_at hl 2 rfl) ?_
    refine lv_if_ne (tgt := 13) hx hb dX0_passNull_8 (by decide) (fun c8 => ?_) (fun c8 => ?_)
    · refine lv_aload_n hx hb dX0_passNull_13 rfl (lv_at hl 0 rfl) ?_
      refine lv_iconst (v := 0) hx hb dX0_passNull_14 (by decide) ?_
      refine lv_lconst (v := 0) hx hb dX0_passNull_15 (by decide) ?_
      refine kc_W [.int 0, .long 0] [] ⟨hx, hb, hml, hown, hts⟩ (cX_keep l dC dI h0 qa qr qt cI cJ av nk rv nr tv nt pk pn (0 : Int32) (0 : Int64)) (cwV 2 hts gX0_passNull_X0_keep rfl rfl rfl (by decide +kernel) ⟨(Nat.le_of_ble_eq_true rfl), (Nat.le_of_ble_eq_true rfl)⟩) hP hK hD hS rfl (ci := 0) (q0 := 0) rfl rfl rfl rfl hl.1 rfl (Nat.le_of_ble_eq_true rfl) dX0_passNull_16 ⟨Nat.zero_le _, Nat.zero_le _⟩ (fun H locs hP1 hS hk1 => ?_)
      have hP : va_P (dC, dI) vwCl (xW h0 qa qr qt cI cJ av nk rv nr tv nt (0 : Int32) (0 : Int64)) H := hP1
      have hD : va_D _ (xW h0 qa qr qt cI cJ av nk rv nr tv nt (0 : Int32) (0 : Int64)) := kD_same hD rfl
      exact W.iret hx hb hr (fun t ht hW => ⟨by rw [fX_passNull, if_neg c4, if_neg c8] <;> rfl, by rw [ht, fX_passNull, if_neg c4, if_neg c8]; exact hP, hS.F ht⟩) hS.2.2 dX0_passNull_19
    · refine lv_iconst (v := 1) hx hb dX0_passNull_11 (by decide) ?_
      exact W.iret hx hb hr (fun t ht hW => ⟨by rw [fX_passNull, if_neg c4, if_pos c8] <;> rfl, by rw [ht, fX_passNull, if_neg c4, if_pos c8]; exact hP, hS.F ht⟩) hS.2.2 dX0_passNull_12
def fX_passAsPlain (pk : Int32) (pn : Int64) (x1 : Int32) (x2 : Bool) (x3 : Int32) (x4 : Int64) : Int32 × Int32 × Int64 := if (bI (fX_isBox x3)) = 0 then ((2 : Int32), pk, pn) else if (bI x2) = 0 then if (bI (fX_mayWiden (x3 - (8 : Int32)) x1)) = 0 then ((2 : Int32), pk, pn) else ((0 : Int32), (0 : Int32), (fX_lowest x1 x4)) else ((0 : Int32), (0 : Int32), (fX_lowest x1 x4))
set_option maxHeartbeats 4000000 in
set_option maxRecDepth 100000 in
theorem cX_passAsPlain (l : Launch) (dC : Nat → ClassId) (dI : Nat → Nat → Nat) (h0 qa qr qt : Nat) (cI cJ : ClassId) (av : Nat → Int32) (nk : Nat) (rv : Nat → Int32) (nr : Nat) (tv : Nat → Int64) (nt : Nat) (pk : Int32) (pn : Int64) (x1 : Int32) (x2 : Bool) (x3 : Int32) (x4 : Int64) : Met l yX0_passAsPlain wsX0_passAsPlain ({ frames := 1, cells := 0, slots := 0, locals := 23 }) (kPw (dC, dI) vwCl [(cI, .int), (cJ, .long)] (xW h0 qa qr qt cI cJ av nk rv nr tv nt pk pn) [.ref h0, .int x1, .int (bI x2), .int x3, .long x4]) (kQw (dC, dI) vwCl (some (.int ((fX_passAsPlain pk pn x1 x2 x3 x4).1))) (xW h0 qa qr qt cI cJ av nk rv nr tv nt ((fX_passAsPlain pk pn x1 x2 x3 x4).2.1) ((fX_passAsPlain pk pn x1 x2 x3 x4).2.2)) [h0, qa, qr, qt]) 0 0 (fun q => q ∈ [h0, qa, qr, qt]) := by
  refine Met.ofW (cc := cX0_passAsPlain) (maxL := 6) (ret := (some .int)) (by decide) rfl ?_
  intro p e s m args below meth c s₁ B hml hv
  obtain ⟨rfl, hP, hK, hD0⟩ := hv
  have hx := B.exec
  have hb := B.bytes
  have hr := B.returns
  have hts := atoms_spec (ws := wsX0_passAsPlain) B.pre
  have hown : s.vm.findClass RX0 = some m.cls := findClass_of_methodNamed B.named
  have hlocks := B.notSynchronized
  have hD : va_D (fun q => q ∈ [h0, qa, qr, qt]) (xW h0 qa qr qt cI cJ av nk rv nr tv nt pk pn) := kD_self hD0 rfl
  have hS : va_S (fun q => q ∈ [h0, qa, qr, qt]) s.heap s.heap [] := va_S.rf
  have hl := lv_entry ([.ref h0, .int x1, .int (bI x2), .int x3, .long x4]) (n := 6) (Nat.le_of_ble_eq_true rfl)
  rw [lg_entry_eq]
  generalize (lg_sl ([.ref h0, .int x1, .int (bI x2), .int x3, .long x4]) ++ List.replicate (6 - (lg_sl ([.ref h0, .int x1, .int (bI x2), .int x3, .long x4])).length) Slot.unset).toArray = ls at hl ⊢
  have hl : lv_has ls 6 [(0, .ref h0), (1, .int x1), (2, .int (bI x2)), (3, .int x3), (4, .long x4)] := hl
  refine lv_iload_n hx hb dX0_passAsPlain_0 rfl (lv_at hl 3 rfl) ?_
  refine kc_S [.int x3] [] ⟨hx, hb, hml, hown, hts⟩ (cX_isBox l x3) (cwS 1 hts gX0_passAsPlain_X0_isBox rfl rfl rfl (by decide +kernel) ⟨(Nat.le_of_ble_eq_true rfl), (Nat.le_of_ble_eq_true rfl)⟩) rfl hl.1 rfl (Nat.le_of_ble_eq_true rfl) dX0_passAsPlain_1 ⟨Nat.zero_le _, Nat.zero_le _⟩ ?_
  refine lv_if_eq (tgt := 22) hx hb dX0_passAsPlain_4 (by decide) (fun c4 => ?_) (fun c4 => ?_)
  · refine lv_iconst (v := 2) hx hb dX0_passAsPlain_22 (by decide) ?_
    exact W.iret hx hb hr (fun t ht hW => ⟨by rw [fX_passAsPlain, if_pos c4] <;> rfl, by rw [ht, fX_passAsPlain, if_pos c4]; exact hP, hS.F ht⟩) hS.2.2 dX0_passAsPlain_23
  · refine lv_iload_n hx hb dX0_passAsPlain_7 rfl (lv_at hl 2 rfl) ?_
    refine lv_if_ne (tgt := 24) hx hb dX0_passAsPlain_8 (by decide) (fun c8 => ?_) (fun c8 => ?_)
    · refine lv_aload_n hx hb dX0_passAsPlain_24 rfl (lv_at hl 0 rfl) ?_
      refine lv_iconst (v := 0) hx hb dX0_passAsPlain_25 (by decide) ?_
      refine lv_iload_n hx hb dX0_passAsPlain_26 rfl (lv_at hl 1 rfl) ?_
      refine lv_lload hx hb dX0_passAsPlain_27 (lv_at hl 4 rfl) ?_
      refine kc_S [.int x1, .long x4] [.int 0, .ref h0] ⟨hx, hb, hml, hown, hts⟩ (cX_lowest l x1 x4) (cwS 2 hts gX0_passAsPlain_X0_lowest rfl rfl rfl (by decide +kernel) ⟨(Nat.le_of_ble_eq_true rfl), (Nat.le_of_ble_eq_true rfl)⟩) rfl hl.1 rfl (Nat.le_of_ble_eq_true rfl) dX0_passAsPlain_29 ⟨Nat.zero_le _, Nat.zero_le _⟩ ?_
      refine kc_W [.int 0, .long (fX_lowest x1 x4)] [] ⟨hx, hb, hml, hown, hts⟩ (cX_keep l dC dI h0 qa qr qt cI cJ av nk rv nr tv nt pk pn (0 : Int32) (fX_lowest x1 x4)) (cwV 2 hts gX0_passAsPlain_X0_keep rfl rfl rfl (by decide +kernel) ⟨(Nat.le_of_ble_eq_true rfl), (Nat.le_of_ble_eq_true rfl)⟩) hP hK hD hS rfl (ci := 0) (q0 := 0) rfl rfl rfl rfl hl.1 rfl (Nat.le_of_ble_eq_true rfl) dX0_passAsPlain_32 ⟨Nat.zero_le _, Nat.zero_le _⟩ (fun H locs hP1 hS hk1 => ?_)
      have hP : va_P (dC, dI) vwCl (xW h0 qa qr qt cI cJ av nk rv nr tv nt (0 : Int32) (fX_lowest x1 x4)) H := hP1
      have hD : va_D _ (xW h0 qa qr qt cI cJ av nk rv nr tv nt (0 : Int32) (fX_lowest x1 x4)) := kD_same hD rfl
      exact W.iret hx hb hr (fun t ht hW => ⟨by rw [fX_passAsPlain, if_neg c4, if_neg c8] <;> rfl, by rw [ht, fX_passAsPlain, if_neg c4, if_neg c8]; exact hP, hS.F ht⟩) hS.2.2 dX0_passAsPlain_35
    · refine lv_iload_n hx hb dX0_passAsPlain_11 rfl (lv_at hl 3 rfl) ?_
      refine lv_bipush (v := 8) hx hb dX0_passAsPlain_12 (by decide) ?_
      refine lv_isub hx hb dX0_passAsPlain_14 ?_
      refine lv_iload_n hx hb dX0_passAsPlain_15 rfl (lv_at hl 1 rfl) ?_
      refine kc_S [.int (x3 - (8 : Int32)), .int x1] [] ⟨hx, hb, hml, hown, hts⟩ (cX_mayWiden l (x3 - (8 : Int32)) x1) (cwS 2 hts gX0_passAsPlain_X0_mayWiden rfl rfl rfl (by decide +kernel) ⟨(Nat.le_of_ble_eq_true rfl), (Nat.le_of_ble_eq_true rfl)⟩) rfl hl.1 rfl (Nat.le_of_ble_eq_true rfl) dX0_passAsPlain_16 ⟨Nat.zero_le _, Nat.zero_le _⟩ ?_
      refine lv_if_ne (tgt := 24) hx hb dX0_passAsPlain_19 (by decide) (fun c19 => ?_) (fun c19 => ?_)
      · refine lv_aload_n hx hb dX0_passAsPlain_24 rfl (lv_at hl 0 rfl) ?_
        refine lv_iconst (v := 0) hx hb dX0_passAsPlain_25 (by decide) ?_
        refine lv_iload_n hx hb dX0_passAsPlain_26 rfl (lv_at hl 1 rfl) ?_
        refine lv_lload hx hb dX0_passAsPlain_27 (lv_at hl 4 rfl) ?_
        refine kc_S [.int x1, .long x4] [.int 0, .ref h0] ⟨hx, hb, hml, hown, hts⟩ (cX_lowest l x1 x4) (cwS 2 hts gX0_passAsPlain_X0_lowest rfl rfl rfl (by decide +kernel) ⟨(Nat.le_of_ble_eq_true rfl), (Nat.le_of_ble_eq_true rfl)⟩) rfl hl.1 rfl (Nat.le_of_ble_eq_true rfl) dX0_passAsPlain_29 ⟨Nat.zero_le _, Nat.zero_le _⟩ ?_
        refine kc_W [.int 0, .long (fX_lowest x1 x4)] [] ⟨hx, hb, hml, hown, hts⟩ (cX_keep l dC dI h0 qa qr qt cI cJ av nk rv nr tv nt pk pn (0 : Int32) (fX_lowest x1 x4)) (cwV 2 hts gX0_passAsPlain_X0_keep rfl rfl rfl (by decide +kernel) ⟨(Nat.le_of_ble_eq_true rfl), (Nat.le_of_ble_eq_true rfl)⟩) hP hK hD hS rfl (ci := 0) (q0 := 0) rfl rfl rfl rfl hl.1 rfl (Nat.le_of_ble_eq_true rfl) dX0_passAsPlain_32 ⟨Nat.zero_le _, Nat.zero_le _⟩ (fun H locs hP1 hS hk1 => ?_)
        have hP : va_P (dC, dI) vwCl (xW h0 qa qr qt cI cJ av nk rv nr tv nt (0 : Int32) (fX_lowest x1 x4)) H := hP1
        have hD : va_D _ (xW h0 qa qr qt cI cJ av nk rv nr tv nt (0 : Int32) (fX_lowest x1 x4)) := kD_same hD rfl
        exact W.iret hx hb hr (fun t ht hW => ⟨by rw [fX_passAsPlain, if_neg c4, if_pos c8, if_neg c19] <;> rfl, by rw [ht, fX_passAsPlain, if_neg c4, if_pos c8, if_neg c19]; exact hP, hS.F ht⟩) hS.2.2 dX0_passAsPlain_35
      · refine lv_iconst (v := 2) hx hb dX0_passAsPlain_22 (by decide) ?_
        exact W.iret hx hb hr (fun t ht hW => ⟨by rw [fX_passAsPlain, if_neg c4, if_pos c8, if_pos c19] <;> rfl, by rw [ht, fX_passAsPlain, if_neg c4, if_pos c8, if_pos c19]; exact hP, hS.F ht⟩) hS.2.2 dX0_passAsPlain_23
def fX_passAsReference (pk : Int32) (pn : Int64) (bl : Nat → Nat → Bool) (x1 : Int32) (x2 : Int32) (x3 : Int64) : Int32 × Int32 × Int64 := if (bI (blI bl x2 x1)) = 0 then ((2 : Int32), pk, pn) else ((0 : Int32), x2, x3)
set_option maxHeartbeats 4000000 in
set_option maxRecDepth 100000 in
theorem cX_passAsReference (l : Launch) (dC : Nat → ClassId) (dI : Nat → Nat → Nat) (h0 qa qr qt : Nat) (cI cJ : ClassId) (av : Nat → Int32) (nk : Nat) (rv : Nat → Int32) (nr : Nat) (tv : Nat → Int64) (nt : Nat) (pk : Int32) (pn : Int64) (bl : Nat → Nat → Bool) (x1 : Int32) (x2 : Int32) (x3 : Int64) (hAV : kAV bl av nk) (hnk : 20 ≤ nk ∧ nk ≤ 32) (hx1 : vp_in x1 32) (hx2 : vp_in x2 nk) : Met l yX0_passAsReference wsX0_passAsReference ({ frames := 1, cells := 0, slots := 0, locals := 23 }) (kPw (dC, dI) vwCl [(cI, .int), (cJ, .long)] (xW h0 qa qr qt cI cJ av nk rv nr tv nt pk pn) [.ref h0, .int x1, .int x2, .long x3]) (kQw (dC, dI) vwCl (some (.int ((fX_passAsReference pk pn bl x1 x2 x3).1))) (xW h0 qa qr qt cI cJ av nk rv nr tv nt ((fX_passAsReference pk pn bl x1 x2 x3).2.1) ((fX_passAsReference pk pn bl x1 x2 x3).2.2)) [h0, qa, qr, qt]) 0 0 (fun q => q ∈ [h0, qa, qr, qt]) := by
  refine Met.ofW (cc := cX0_passAsReference) (maxL := 5) (ret := (some .int)) (by decide) rfl ?_
  intro p e s m args below meth c s₁ B hml hv
  obtain ⟨rfl, hP, hK, hD0⟩ := hv
  have hx := B.exec
  have hb := B.bytes
  have hr := B.returns
  have hts := atoms_spec (ws := wsX0_passAsReference) B.pre
  have hown : s.vm.findClass RX0 = some m.cls := findClass_of_methodNamed B.named
  have hlocks := B.notSynchronized
  have hD : va_D (fun q => q ∈ [h0, qa, qr, qt]) (xW h0 qa qr qt cI cJ av nk rv nr tv nt pk pn) := kD_self hD0 rfl
  have hS : va_S (fun q => q ∈ [h0, qa, qr, qt]) s.heap s.heap [] := va_S.rf
  have hl := lv_entry ([.ref h0, .int x1, .int x2, .long x3]) (n := 5) (Nat.le_of_ble_eq_true rfl)
  rw [lg_entry_eq]
  generalize (lg_sl ([.ref h0, .int x1, .int x2, .long x3]) ++ List.replicate (5 - (lg_sl ([.ref h0, .int x1, .int x2, .long x3])).length) Slot.unset).toArray = ls at hl ⊢
  have hl : lv_has ls 5 [(0, .ref h0), (1, .int x1), (2, .int x2), (3, .long x3)] := hl
  refine lv_aload_n hx hb dX0_passAsReference_0 rfl (lv_at hl 0 rfl) ?_
  refine lv_iload_n hx hb dX0_passAsReference_1 rfl (lv_at hl 2 rfl) ?_
  refine lv_iload_n hx hb dX0_passAsReference_2 rfl (lv_at hl 1 rfl) ?_
  refine kc_R [.int x2, .int x1] [] ⟨hx, hb, hml, hown, hts⟩ (cX_isBelow l dC dI h0 qa qr qt cI cJ av nk rv nr tv nt pk pn bl x2 x1 hAV hnk hx2 hx1) (cwV 2 hts gX0_passAsReference_X0_isBelow rfl rfl rfl (by decide +kernel) ⟨(Nat.le_of_ble_eq_true rfl), (Nat.le_of_ble_eq_true rfl)⟩) hP hK (ci := 0) (q0 := 0) rfl rfl rfl rfl hl.1 rfl (Nat.le_of_ble_eq_true rfl) dX0_passAsReference_3 ⟨Nat.zero_le _, Nat.zero_le _⟩ ?_
  refine lv_if_eq (tgt := 18) hx hb dX0_passAsReference_6 (by decide) (fun c6 => ?_) (fun c6 => ?_)
  · refine lv_iconst (v := 2) hx hb dX0_passAsReference_18 (by decide) ?_
    exact W.iret hx hb hr (fun t ht hW => ⟨by rw [fX_passAsReference, if_pos c6] <;> rfl, by rw [ht, fX_passAsReference, if_pos c6]; exact hP, hS.F ht⟩) hS.2.2 dX0_passAsReference_19
  · refine lv_aload_n hx hb dX0_passAsReference_9 rfl (lv_at hl 0 rfl) ?_
    refine lv_iload_n hx hb dX0_passAsReference_10 rfl (lv_at hl 2 rfl) ?_
    refine lv_lload_n hx hb dX0_passAsReference_11 rfl (lv_at hl 3 rfl) ?_
    refine kc_W [.int x2, .long x3] [] ⟨hx, hb, hml, hown, hts⟩ (cX_keep l dC dI h0 qa qr qt cI cJ av nk rv nr tv nt pk pn x2 x3) (cwV 2 hts gX0_passAsReference_X0_keep rfl rfl rfl (by decide +kernel) ⟨(Nat.le_of_ble_eq_true rfl), (Nat.le_of_ble_eq_true rfl)⟩) hP hK hD hS rfl (ci := 0) (q0 := 0) rfl rfl rfl rfl hl.1 rfl (Nat.le_of_ble_eq_true rfl) dX0_passAsReference_12 ⟨Nat.zero_le _, Nat.zero_le _⟩ (fun H locs hP1 hS hk1 => ?_)
    have hP : va_P (dC, dI) vwCl (xW h0 qa qr qt cI cJ av nk rv nr tv nt x2 x3) H := hP1
    have hD : va_D _ (xW h0 qa qr qt cI cJ av nk rv nr tv nt x2 x3) := kD_same hD rfl
    refine lv_goto (tgt := 19) hx hb dX0_passAsReference_15 (by decide) ?_
    exact W.iret hx hb hr (fun t ht hW => ⟨by rw [fX_passAsReference, if_neg c6] <;> rfl, by rw [ht, fX_passAsReference, if_neg c6]; exact hP, hS.F ht⟩) hS.2.2 dX0_passAsReference_19
def fX_pass (nk : Nat) (pk : Int32) (pn : Int64) (bl : Nat → Nat → Bool) (x1 : Int32) (x2 : Int32) (x3 : Bool) (x4 : Int32) (x5 : Int64) : Int32 × Int32 × Int64 := if (bI (fX_may nk bl x1 x2 x3 false)) = 0 then ((-1 : Int32), pk, pn) else if (bI (fX_isPlain x1)) = 0 then if x4 = 0 then ((fX_passNull pk pn x2 x3).1, (fX_passNull pk pn x2 x3).2.1, (fX_passNull pk pn x2 x3).2.2) else if (bI (fX_isObject nk x4 x5)) = 0 then ((-1 : Int32), pk, pn) else if (bI (blI bl x4 x1)) = 0 then ((-1 : Int32), pk, pn) else if (bI (fX_isPlain x2)) = 0 then ((fX_passAsReference pk pn bl x2 x4 x5).1, (fX_passAsReference pk pn bl x2 x4 x5).2.1, (fX_passAsReference pk pn bl x2 x4 x5).2.2) else ((fX_passAsPlain pk pn x2 x3 x4 x5).1, (fX_passAsPlain pk pn x2 x3 x4 x5).2.1, (fX_passAsPlain pk pn x2 x3 x4 x5).2.2) else if (bI (fX_fits x1 x5)) = 0 then ((-1 : Int32), pk, pn) else ((fX_passPlain x1 x2 x5).1, (fX_passPlain x1 x2 x5).2.1, (fX_passPlain x1 x2 x5).2.2)
set_option maxHeartbeats 4000000 in
set_option maxRecDepth 100000 in
theorem cX_pass (l : Launch) (dC : Nat → ClassId) (dI : Nat → Nat → Nat) (h0 qa qr qt : Nat) (cI cJ : ClassId) (av : Nat → Int32) (nk : Nat) (rv : Nat → Int32) (nr : Nat) (tv : Nat → Int64) (nt : Nat) (pk : Int32) (pn : Int64) (bl : Nat → Nat → Bool) (x1 : Int32) (x2 : Int32) (x3 : Bool) (x4 : Int32) (x5 : Int64) (hAV : kAV bl av nk) (hnk : 20 ≤ nk ∧ nk ≤ 32) : Met l yX0_pass wsX0_pass ({ frames := 4, cells := 0, slots := 0, locals := 89 }) (kPw (dC, dI) vwCl [(cI, .int), (cJ, .long)] (xW h0 qa qr qt cI cJ av nk rv nr tv nt pk pn) [.ref h0, .int x1, .int x2, .int (bI x3), .int x4, .long x5]) (kQw (dC, dI) vwCl (some (.int ((fX_pass nk pk pn bl x1 x2 x3 x4 x5).1))) (xW h0 qa qr qt cI cJ av nk rv nr tv nt ((fX_pass nk pk pn bl x1 x2 x3 x4 x5).2.1) ((fX_pass nk pk pn bl x1 x2 x3 x4 x5).2.2)) [h0, qa, qr, qt]) 0 0 (fun q => q ∈ [h0, qa, qr, qt]) := by
  refine Met.ofW (cc := cX0_pass) (maxL := 7) (ret := (some .int)) (by decide) rfl ?_
  intro p e s m args below meth c s₁ B hml hv
  obtain ⟨rfl, hP, hK, hD0⟩ := hv
  have hx := B.exec
  have hb := B.bytes
  have hr := B.returns
  have hts := atoms_spec (ws := wsX0_pass) B.pre
  have hown : s.vm.findClass RX0 = some m.cls := findClass_of_methodNamed B.named
  have hlocks := B.notSynchronized
  have hD : va_D (fun q => q ∈ [h0, qa, qr, qt]) (xW h0 qa qr qt cI cJ av nk rv nr tv nt pk pn) := kD_self hD0 rfl
  have hS : va_S (fun q => q ∈ [h0, qa, qr, qt]) s.heap s.heap [] := va_S.rf
  have hl := lv_entry ([.ref h0, .int x1, .int x2, .int (bI x3), .int x4, .long x5]) (n := 7) (Nat.le_of_ble_eq_true rfl)
  rw [lg_entry_eq]
  generalize (lg_sl ([.ref h0, .int x1, .int x2, .int (bI x3), .int x4, .long x5]) ++ List.replicate (7 - (lg_sl ([.ref h0, .int x1, .int x2, .int (bI x3), .int x4, .long x5])).length) Slot.unset).toArray = ls at hl ⊢
  have hl : lv_has ls 7 [(0, .ref h0), (1, .int x1), (2, .int x2), (3, .int (bI x3)), (4, .int x4), (5, .long x5)] := hl
  refine lv_aload_n hx hb dX0_pass_0 rfl (lv_at hl 0 rfl) ?_
  refine lv_iload_n hx hb dX0_pass_1 rfl (lv_at hl 1 rfl) ?_
  refine lv_iload_n hx hb dX0_pass_2 rfl (lv_at hl 2 rfl) ?_
  refine lv_iload_n hx hb dX0_pass_3 rfl (lv_at hl 3 rfl) ?_
  refine lv_iconst (v := 0) hx hb dX0_pass_4 (by decide) ?_
  refine kc_R [.int x1, .int x2, .int (bI x3), .int 0] [] ⟨hx, hb, hml, hown, hts⟩ (cX_may l dC dI h0 qa qr qt cI cJ av nk rv nr tv nt pk pn bl x1 x2 x3 false hAV hnk) (cwV 4 hts gX0_pass_X0_may rfl rfl rfl (by decide +kernel) ⟨(Nat.le_of_ble_eq_true rfl), (Nat.le_of_ble_eq_true rfl)⟩) hP hK (ci := 0) (q0 := 0) rfl rfl rfl rfl hl.1 rfl (Nat.le_of_ble_eq_true rfl) dX0_pass_5 ⟨Nat.zero_le _, Nat.zero_le _⟩ ?_
  refine lv_if_ne (tgt := 13) hx hb dX0_pass_8 (by decide) (fun c8 => ?_) (fun c8 => ?_)
  · refine lv_iload_n hx hb dX0_pass_13 rfl (lv_at hl 1 rfl) ?_
    refine kc_S [.int x1] [] ⟨hx, hb, hml, hown, hts⟩ (cX_isPlain l x1) (cwS 1 hts gX0_pass_X0_isPlain rfl rfl rfl (by decide +kernel) ⟨(Nat.le_of_ble_eq_true rfl), (Nat.le_of_ble_eq_true rfl)⟩) rfl hl.1 rfl (Nat.le_of_ble_eq_true rfl) dX0_pass_14 ⟨Nat.zero_le _, Nat.zero_le _⟩ ?_
    refine lv_if_eq (tgt := 42) hx hb dX0_pass_17 (by decide) (fun c17 => ?_) (fun c17 => ?_)
    · refine lv_iload hx hb dX0_pass_42 (lv_at hl 4 rfl) ?_
      refine lv_if_ne (tgt := 54) hx hb dX0_pass_44 (by decide) (fun c44 => ?_) (fun c44 => ?_)
      · refine lv_aload_n hx hb dX0_pass_54 rfl (lv_at hl 0 rfl) ?_
        refine lv_iload hx hb dX0_pass_55 (lv_at hl 4 rfl) ?_
        refine lv_lload hx hb dX0_pass_57 (lv_at hl 5 rfl) ?_
        refine kc_R [.int x4, .long x5] [] ⟨hx, hb, hml, hown, hts⟩ (cX_isObject l dC dI h0 qa qr qt cI cJ av nk rv nr tv nt pk pn x4 x5) (cwV 2 hts gX0_pass_X0_isObject rfl rfl rfl (by decide +kernel) ⟨(Nat.le_of_ble_eq_true rfl), (Nat.le_of_ble_eq_true rfl)⟩) hP hK (ci := 0) (q0 := 0) rfl rfl rfl rfl hl.1 rfl (Nat.le_of_ble_eq_true rfl) dX0_pass_59 ⟨Nat.zero_le _, Nat.zero_le _⟩ ?_
        refine lv_if_eq (tgt := 75) hx hb dX0_pass_62 (by decide) (fun c62 => ?_) (fun c62 => ?_)
        · refine lv_iconst (v := -1) hx hb dX0_pass_75 (by decide) ?_
          exact W.iret hx hb hr (fun t ht hW => ⟨by rw [fX_pass, if_neg c8, if_pos c17, if_neg c44, if_pos c62] <;> rfl, by rw [ht, fX_pass, if_neg c8, if_pos c17, if_neg c44, if_pos c62]; exact hP, hS.F ht⟩) hS.2.2 dX0_pass_76
        · refine lv_aload_n hx hb dX0_pass_65 rfl (lv_at hl 0 rfl) ?_
          refine lv_iload hx hb dX0_pass_66 (lv_at hl 4 rfl) ?_
          refine lv_iload_n hx hb dX0_pass_68 rfl (lv_at hl 1 rfl) ?_
          refine kc_R [.int x4, .int x1] [] ⟨hx, hb, hml, hown, hts⟩ (cX_isBelow l dC dI h0 qa qr qt cI cJ av nk rv nr tv nt pk pn bl x4 x1 hAV hnk (kO_in hnk.2 c62) (vp_in_mono (kmay_in hnk.2 c8).1 hnk.2)) (cwV 2 hts gX0_pass_X0_isBelow rfl rfl rfl (by decide +kernel) ⟨(Nat.le_of_ble_eq_true rfl), (Nat.le_of_ble_eq_true rfl)⟩) hP hK (ci := 0) (q0 := 0) rfl rfl rfl rfl hl.1 rfl (Nat.le_of_ble_eq_true rfl) dX0_pass_69 ⟨Nat.zero_le _, Nat.zero_le _⟩ ?_
          refine lv_if_ne (tgt := 77) hx hb dX0_pass_72 (by decide) (fun c72 => ?_) (fun c72 => ?_)
          · refine lv_iload_n hx hb dX0_pass_77 rfl (lv_at hl 2 rfl) ?_
            refine kc_S [.int x2] [] ⟨hx, hb, hml, hown, hts⟩ (cX_isPlain l x2) (cwS 1 hts gX0_pass_X0_isPlain rfl rfl rfl (by decide +kernel) ⟨(Nat.le_of_ble_eq_true rfl), (Nat.le_of_ble_eq_true rfl)⟩) rfl hl.1 rfl (Nat.le_of_ble_eq_true rfl) dX0_pass_78 ⟨Nat.zero_le _, Nat.zero_le _⟩ ?_
            refine lv_if_eq (tgt := 97) hx hb dX0_pass_81 (by decide) (fun c81 => ?_) (fun c81 => ?_)
            · refine lv_aload_n hx hb dX0_pass_97 rfl (lv_at hl 0 rfl) ?_
              refine lv_iload_n hx hb dX0_pass_98 rfl (lv_at hl 2 rfl) ?_
              refine lv_iload hx hb dX0_pass_99 (lv_at hl 4 rfl) ?_
              refine lv_lload hx hb dX0_pass_101 (lv_at hl 5 rfl) ?_
              refine kc_W [.int x2, .int x4, .long x5] [] ⟨hx, hb, hml, hown, hts⟩ (cX_passAsReference l dC dI h0 qa qr qt cI cJ av nk rv nr tv nt pk pn bl x2 x4 x5 hAV hnk (vp_in_mono (kmay_in hnk.2 c8).2 hnk.2) (kO_in hnk.2 c62)) (cwV 3 hts gX0_pass_X0_passAsReference rfl rfl rfl (by decide +kernel) ⟨(Nat.le_of_ble_eq_true rfl), (Nat.le_of_ble_eq_true rfl)⟩) hP hK hD hS rfl (ci := 0) (q0 := 0) rfl rfl rfl rfl hl.1 rfl (Nat.le_of_ble_eq_true rfl) dX0_pass_103 ⟨Nat.zero_le _, Nat.zero_le _⟩ (fun H locs hP1 hS hk1 => ?_)
              have hP : va_P (dC, dI) vwCl (xW h0 qa qr qt cI cJ av nk rv nr tv nt ((fX_passAsReference pk pn bl x2 x4 x5).2.1) ((fX_passAsReference pk pn bl x2 x4 x5).2.2)) H := hP1
              have hD : va_D _ (xW h0 qa qr qt cI cJ av nk rv nr tv nt ((fX_passAsReference pk pn bl x2 x4 x5).2.1) ((fX_passAsReference pk pn bl x2 x4 x5).2.2)) := kD_same hD rfl
              exact W.iret hx hb hr (fun t ht hW => ⟨by rw [fX_pass, if_neg c8, if_pos c17, if_neg c44, if_neg c62, if_neg c72, if_pos c81] <;> rfl, by rw [ht, fX_pass, if_neg c8, if_pos c17, if_neg c44, if_neg c62, if_neg c72, if_pos c81]; exact hP, hS.F ht⟩) hS.2.2 dX0_pass_106
            · refine lv_aload_n hx hb dX0_pass_84 rfl (lv_at hl 0 rfl) ?_
              refine lv_iload_n hx hb dX0_pass_85 rfl (lv_at hl 2 rfl) ?_
              refine lv_iload_n hx hb dX0_pass_86 rfl (lv_at hl 3 rfl) ?_
              refine lv_iload hx hb dX0_pass_87 (lv_at hl 4 rfl) ?_
              refine lv_lload hx hb dX0_pass_89 (lv_at hl 5 rfl) ?_
              refine kc_W [.int x2, .int (bI x3), .int x4, .long x5] [] ⟨hx, hb, hml, hown, hts⟩ (cX_passAsPlain l dC dI h0 qa qr qt cI cJ av nk rv nr tv nt pk pn x2 x3 x4 x5) (cwV 4 hts gX0_pass_X0_passAsPlain rfl rfl rfl (by decide +kernel) ⟨(Nat.le_of_ble_eq_true rfl), (Nat.le_of_ble_eq_true rfl)⟩) hP hK hD hS rfl (ci := 0) (q0 := 0) rfl rfl rfl rfl hl.1 rfl (Nat.le_of_ble_eq_true rfl) dX0_pass_91 ⟨Nat.zero_le _, Nat.zero_le _⟩ (fun H locs hP1 hS hk1 => ?_)
              have hP : va_P (dC, dI) vwCl (xW h0 qa qr qt cI cJ av nk rv nr tv nt ((fX_passAsPlain pk pn x2 x3 x4 x5).2.1) ((fX_passAsPlain pk pn x2 x3 x4 x5).2.2)) H := hP1
              have hD : va_D _ (xW h0 qa qr qt cI cJ av nk rv nr tv nt ((fX_passAsPlain pk pn x2 x3 x4 x5).2.1) ((fX_passAsPlain pk pn x2 x3 x4 x5).2.2)) := kD_same hD rfl
              refine lv_goto (tgt := 106) hx hb dX0_pass_94 (by decide) ?_
              exact W.iret hx hb hr (fun t ht hW => ⟨by rw [fX_pass, if_neg c8, if_pos c17, if_neg c44, if_neg c62, if_neg c72, if_neg c81] <;> rfl, by rw [ht, fX_pass, if_neg c8, if_pos c17, if_neg c44, if_neg c62, if_neg c72, if_neg c81]; exact hP, hS.F ht⟩) hS.2.2 dX0_pass_106
          · refine lv_iconst (v := -1) hx hb dX0_pass_75 (by decide) ?_
            exact W.iret hx hb hr (fun t ht hW => ⟨by rw [fX_pass, if_neg c8, if_pos c17, if_neg c44, if_neg c62, if_pos c72] <;> rfl, by rw [ht, fX_pass, if_neg c8, if_pos c17, if_neg c44, if_neg c62, if_pos c72]; exact hP, hS.F ht⟩) hS.2.2 dX0_pass_76
      · refine lv_aload_n hx hb dX0_pass_47 rfl (lv_at hl 0 rfl) ?_
        refine lv_iload_n hx hb dX0_pass_48 rfl (lv_at hl 2 rfl) ?_
        refine lv_iload_n hx hb dX0_pass_49 rfl (lv_at hl 3 rfl) ?_
        refine kc_W [.int x2, .int (bI x3)] [] ⟨hx, hb, hml, hown, hts⟩ (cX_passNull l dC dI h0 qa qr qt cI cJ av nk rv nr tv nt pk pn x2 x3) (cwV 2 hts gX0_pass_X0_passNull rfl rfl rfl (by decide +kernel) ⟨(Nat.le_of_ble_eq_true rfl), (Nat.le_of_ble_eq_true rfl)⟩) hP hK hD hS rfl (ci := 0) (q0 := 0) rfl rfl rfl rfl hl.1 rfl (Nat.le_of_ble_eq_true rfl) dX0_pass_50 ⟨Nat.zero_le _, Nat.zero_le _⟩ (fun H locs hP1 hS hk1 => ?_)
        have hP : va_P (dC, dI) vwCl (xW h0 qa qr qt cI cJ av nk rv nr tv nt ((fX_passNull pk pn x2 x3).2.1) ((fX_passNull pk pn x2 x3).2.2)) H := hP1
        have hD : va_D _ (xW h0 qa qr qt cI cJ av nk rv nr tv nt ((fX_passNull pk pn x2 x3).2.1) ((fX_passNull pk pn x2 x3).2.2)) := kD_same hD rfl
        exact W.iret hx hb hr (fun t ht hW => ⟨by rw [fX_pass, if_neg c8, if_pos c17, if_pos c44] <;> rfl, by rw [ht, fX_pass, if_neg c8, if_pos c17, if_pos c44]; exact hP, hS.F ht⟩) hS.2.2 dX0_pass_53
    · refine lv_iload_n hx hb dX0_pass_20 rfl (lv_at hl 1 rfl) ?_
      refine lv_lload hx hb dX0_pass_21 (lv_at hl 5 rfl) ?_
      refine kc_S [.int x1, .long x5] [] ⟨hx, hb, hml, hown, hts⟩ (cX_fits l x1 x5) (cwS 2 hts gX0_pass_X0_fits rfl rfl rfl (by decide +kernel) ⟨(Nat.le_of_ble_eq_true rfl), (Nat.le_of_ble_eq_true rfl)⟩) rfl hl.1 rfl (Nat.le_of_ble_eq_true rfl) dX0_pass_23 ⟨Nat.zero_le _, Nat.zero_le _⟩ ?_
      refine lv_if_eq (tgt := 40) hx hb dX0_pass_26 (by decide) (fun c26 => ?_) (fun c26 => ?_)
      · refine lv_iconst (v := -1) hx hb dX0_pass_40 (by decide) ?_
        exact W.iret hx hb hr (fun t ht hW => ⟨by rw [fX_pass, if_neg c8, if_neg c17, if_pos c26] <;> rfl, by rw [ht, fX_pass, if_neg c8, if_neg c17, if_pos c26]; exact hP, hS.F ht⟩) hS.2.2 dX0_pass_41
      · refine lv_aload_n hx hb dX0_pass_29 rfl (lv_at hl 0 rfl) ?_
        refine lv_iload_n hx hb dX0_pass_30 rfl (lv_at hl 1 rfl) ?_
        refine lv_iload_n hx hb dX0_pass_31 rfl (lv_at hl 2 rfl) ?_
        refine lv_lload hx hb dX0_pass_32 (lv_at hl 5 rfl) ?_
        refine kc_W [.int x1, .int x2, .long x5] [] ⟨hx, hb, hml, hown, hts⟩ (cX_passPlain l dC dI h0 qa qr qt cI cJ av nk rv nr tv nt pk pn x1 x2 x5) (cwV 3 hts gX0_pass_X0_passPlain rfl rfl rfl (by decide +kernel) ⟨(Nat.le_of_ble_eq_true rfl), (Nat.le_of_ble_eq_true rfl)⟩) hP hK hD hS rfl (ci := 0) (q0 := 0) rfl rfl rfl rfl hl.1 rfl (Nat.le_of_ble_eq_true rfl) dX0_pass_34 ⟨Nat.zero_le _, Nat.zero_le _⟩ (fun H locs hP1 hS hk1 => ?_)
        have hP : va_P (dC, dI) vwCl (xW h0 qa qr qt cI cJ av nk rv nr tv nt ((fX_passPlain x1 x2 x5).2.1) ((fX_passPlain x1 x2 x5).2.2)) H := hP1
        have hD : va_D _ (xW h0 qa qr qt cI cJ av nk rv nr tv nt ((fX_passPlain x1 x2 x5).2.1) ((fX_passPlain x1 x2 x5).2.2)) := kD_same hD rfl
        refine lv_goto (tgt := 41) hx hb dX0_pass_37 (by decide) ?_
        exact W.iret hx hb hr (fun t ht hW => ⟨by rw [fX_pass, if_neg c8, if_neg c17, if_neg c26] <;> rfl, by rw [ht, fX_pass, if_neg c8, if_neg c17, if_neg c26]; exact hP, hS.F ht⟩) hS.2.2 dX0_pass_41
  · refine lv_iconst (v := -1) hx hb dX0_pass_11 (by decide) ?_
    exact W.iret hx hb hr (fun t ht hW => ⟨by rw [fX_pass, if_pos c8] <;> rfl, by rw [ht, fX_pass, if_pos c8]; exact hP, hS.F ht⟩) hS.2.2 dX0_pass_12
def fX_put (rv : Nat → Int32) (nr : Nat) (x1 : Int32) : Bool × (Nat → Int32) × Nat := if (nI nr) < (20 : Int32) then (true, (upd rv (nI nr).toNatClampNeg x1), (nr + 1)) else (false, rv, nr)
set_option maxHeartbeats 4000000 in
set_option maxRecDepth 100000 in
theorem cX_put (l : Launch) (dC : Nat → ClassId) (dI : Nat → Nat → Nat) (h0 qa qr qt : Nat) (cI cJ : ClassId) (av : Nat → Int32) (nk : Nat) (rv : Nat → Int32) (nr : Nat) (tv : Nat → Int64) (nt : Nat) (pk : Int32) (pn : Int64) (x1 : Int32) (hnr : nr ≤ 20) : Met l yX0_put wsX0_put ({ frames := 0, cells := 0, slots := 0, locals := 0 }) (kPw (dC, dI) vwCl [(cI, .int), (cJ, .long)] (xW h0 qa qr qt cI cJ av nk rv nr tv nt pk pn) [.ref h0, .int x1]) (kQw (dC, dI) vwCl (some (.int (bI ((fX_put rv nr x1).1)))) (xW h0 qa qr qt cI cJ av nk ((fX_put rv nr x1).2.1) ((fX_put rv nr x1).2.2) tv nt pk pn) [h0, qa, qr, qt]) 0 0 (fun q => q ∈ [h0, qa, qr, qt]) := by
  refine Met.ofW (cc := cX0_put) (maxL := 2) (ret := (some .boolean)) (by decide) rfl ?_
  intro p e s m args below meth c s₁ B hml hv
  obtain ⟨rfl, hP, hK, hD0⟩ := hv
  have hx := B.exec
  have hb := B.bytes
  have hr := B.returns
  have hts := atoms_spec (ws := wsX0_put) B.pre
  have hown : s.vm.findClass RX0 = some m.cls := findClass_of_methodNamed B.named
  have hlocks := B.notSynchronized
  have hin : ∀ w ∈ u_ws RX0 TX0 8, w ∈ wsX0_put := by decide +kernel
  have hD : va_D (fun q => q ∈ [h0, qa, qr, qt]) (xW h0 qa qr qt cI cJ av nk rv nr tv nt pk pn) := kD_self hD0 rfl
  have hS : va_S (fun q => q ∈ [h0, qa, qr, qt]) s.heap s.heap [] := va_S.rf
  have hl := lv_entry ([.ref h0, .int x1]) (n := 2) (Nat.le_of_ble_eq_true rfl)
  rw [lg_entry_eq]
  generalize (lg_sl ([.ref h0, .int x1]) ++ List.replicate (2 - (lg_sl ([.ref h0, .int x1])).length) Slot.unset).toArray = ls at hl ⊢
  have hl : lv_has ls 2 [(0, .ref h0), (1, .int x1)] := hl
  refine lv_aload_n hx hb dX0_put_0 rfl (lv_at hl 0 rfl) ?_
  refine va_get (D := (dC, dI)) (ci := 0) (v := .int (nI nr)) (C := RX0) (T := TX0) (N := 8) hx hb hts hin hown hK hP 0 rfl rfl 3 (by decide) (hts (.fieldLink RX0 24 "KindTable" "rowLength" "I") (by decide +kernel)) (fun _ h9 => h9) rfl dX0_put_1 ?_
  refine lv_bipush (v := 20) hx hb dX0_put_4 (by decide) ?_
  refine lv_icmp_lt (tgt := 11) hx hb dX0_put_6 (by decide) (fun c6 => ?_) (fun c6 => ?_)
  · refine lv_aload_n hx hb dX0_put_11 rfl (lv_at hl 0 rfl) ?_
    refine va_get (D := (dC, dI)) (ci := 0) (v := .ref qr) (C := RX0) (T := TX0) (N := 8) hx hb hts hin hown hK hP 0 rfl rfl 2 (by decide) (hts (.fieldLink RX0 21 "KindTable" "row" "[I") (by decide +kernel)) (fun _ h9 => h9) rfl dX0_put_12 ?_
    refine lv_aload_n hx hb dX0_put_15 rfl (lv_at hl 0 rfl) ?_
    refine va_get (D := (dC, dI)) (ci := 0) (v := .int (nI nr)) (C := RX0) (T := TX0) (N := 8) hx hb hts hin hown hK hP 0 rfl rfl 3 (by decide) (hts (.fieldLink RX0 24 "KindTable" "rowLength" "I") (by decide +kernel)) (fun _ h9 => h9) rfl dX0_put_16 ?_
    refine lv_iload_n hx hb dX0_put_19 rfl (lv_at hl 1 rfl) ?_
    refine va_iast hx hb hK hP hD hS 2 0 rfl rfl (kput_in hnr c6) dX0_put_20 (fun H locs hP hD hS => ?_)
    have hP : va_P (dC, dI) vwCl (xW h0 qa qr qt cI cJ av nk (upd rv (nI nr).toNatClampNeg x1) nr tv nt pk pn) H := hP
    have hD : va_D _ (xW h0 qa qr qt cI cJ av nk (upd rv (nI nr).toNatClampNeg x1) nr tv nt pk pn) := hD
    refine lv_aload_n hx hb dX0_put_21 rfl (lv_at hl 0 rfl) ?_
    refine lv_dup hx hb dX0_put_22 rfl ?_
    refine va_get (D := (dC, dI)) (ci := 0) (v := .int (nI nr)) (C := RX0) (T := TX0) (N := 8) hx hb hts hin hown hK hP 0 rfl rfl 3 (by decide) (hts (.fieldLink RX0 24 "KindTable" "rowLength" "I") (by decide +kernel)) (fun _ h9 => h9) rfl dX0_put_23 ?_
    refine lv_iconst (v := 1) hx hb dX0_put_26 (by decide) ?_
    refine lv_iadd hx hb dX0_put_27 ?_
    refine kv_topi (y := nI (nr + 1)) (nI_1 nr) ?_
    refine va_put (D := (dC, dI)) (ci := 0) (v := .int (nI (nr + 1))) (ty := .int) (C := RX0) (T := TX0) (N := 8) hx hb hts hin tyX0 tyX0_ok nmX0 hown hK hP hD hS 0 rfl rfl 3 (by decide) (hts (.fieldLink RX0 24 "KindTable" "rowLength" "I") (by decide +kernel)) (fun _ h9 => h9) rfl (by decide +kernel) rfl rfl (Nat.le_of_ble_eq_true rfl) dX0_put_28 (fun H locs hP hD hS => ?_)
    have hP : va_P (dC, dI) vwCl (xW h0 qa qr qt cI cJ av nk (upd rv (nI nr).toNatClampNeg x1) (nr + 1) tv nt pk pn) H := hP
    have hD : va_D _ (xW h0 qa qr qt cI cJ av nk (upd rv (nI nr).toNatClampNeg x1) (nr + 1) tv nt pk pn) := hD
    refine lv_iconst (v := 1) hx hb dX0_put_31 (by decide) ?_
    exact W.zret hx hb hr rfl (fun t ht hW => ⟨by rw [fX_put, if_pos c6] <;> rfl, by rw [ht, fX_put, if_pos c6]; exact hP, hS.F ht⟩) hS.2.2 dX0_put_32
  · refine lv_iconst (v := 0) hx hb dX0_put_9 (by decide) ?_
    exact W.zret hx hb hr rfl (fun t ht hW => ⟨by rw [fX_put, if_neg c6] <;> rfl, by rw [ht, fX_put, if_neg c6]; exact hP, hS.F ht⟩) hS.2.2 dX0_put_10
def fX_newClass (av : Nat → Int32) (nk : Nat) (x1 : Int32) : Int32 × (Nat → Int32) × Nat := if (32 : Int32) ≤ (nI nk) then ((-1 : Int32), av, nk) else if (bI (fX_mayBeParent nk x1)) = 0 then ((-1 : Int32), av, nk) else (nI nk, (upd av (nI nk).toNatClampNeg ((av x1.toNatClampNeg) ||| ((1 : Int32) <<< ((nI nk) &&& 31)))), (nk + 1))
set_option maxHeartbeats 4000000 in
set_option maxRecDepth 100000 in
theorem cX_newClass (l : Launch) (dC : Nat → ClassId) (dI : Nat → Nat → Nat) (h0 qa qr qt : Nat) (cI cJ : ClassId) (av : Nat → Int32) (nk : Nat) (rv : Nat → Int32) (nr : Nat) (tv : Nat → Int64) (nt : Nat) (pk : Int32) (pn : Int64) (x1 : Int32) (hnk : 20 ≤ nk ∧ nk ≤ 32) : Met l yX0_newClass wsX0_newClass ({ frames := 2, cells := 0, slots := 0, locals := 42 }) (kPw (dC, dI) vwCl [(cI, .int), (cJ, .long)] (xW h0 qa qr qt cI cJ av nk rv nr tv nt pk pn) [.ref h0, .int x1]) (kQw (dC, dI) vwCl (some (.int ((fX_newClass av nk x1).1))) (xW h0 qa qr qt cI cJ ((fX_newClass av nk x1).2.1) ((fX_newClass av nk x1).2.2) rv nr tv nt pk pn) [h0, qa, qr, qt]) 0 0 (fun q => q ∈ [h0, qa, qr, qt]) := by
  refine Met.ofW (cc := cX0_newClass) (maxL := 3) (ret := (some .int)) (by decide) rfl ?_
  intro p e s m args below meth c s₁ B hml hv
  obtain ⟨rfl, hP, hK, hD0⟩ := hv
  have hx := B.exec
  have hb := B.bytes
  have hr := B.returns
  have hts := atoms_spec (ws := wsX0_newClass) B.pre
  have hown : s.vm.findClass RX0 = some m.cls := findClass_of_methodNamed B.named
  have hlocks := B.notSynchronized
  have hin : ∀ w ∈ u_ws RX0 TX0 8, w ∈ wsX0_newClass := by decide +kernel
  have hD : va_D (fun q => q ∈ [h0, qa, qr, qt]) (xW h0 qa qr qt cI cJ av nk rv nr tv nt pk pn) := kD_self hD0 rfl
  have hS : va_S (fun q => q ∈ [h0, qa, qr, qt]) s.heap s.heap [] := va_S.rf
  have hl := lv_entry ([.ref h0, .int x1]) (n := 3) (Nat.le_of_ble_eq_true rfl)
  rw [lg_entry_eq]
  generalize (lg_sl ([.ref h0, .int x1]) ++ List.replicate (3 - (lg_sl ([.ref h0, .int x1])).length) Slot.unset).toArray = ls at hl ⊢
  have hl : lv_has ls 3 [(0, .ref h0), (1, .int x1)] := hl
  refine lv_aload_n hx hb dX0_newClass_0 rfl (lv_at hl 0 rfl) ?_
  refine va_get (D := (dC, dI)) (ci := 0) (v := .int (nI nk)) (C := RX0) (T := TX0) (N := 8) hx hb hts hin hown hK hP 0 rfl rfl 1 (by decide) (hts (.fieldLink RX0 17 "KindTable" "kindCount" "I") (by decide +kernel)) (fun _ h9 => h9) rfl dX0_newClass_1 ?_
  refine lv_bipush (v := 32) hx hb dX0_newClass_4 (by decide) ?_
  refine lv_icmp_ge (tgt := 17) hx hb dX0_newClass_6 (by decide) (fun c6 => ?_) (fun c6 => ?_)
  · refine lv_iconst (v := -1) hx hb dX0_newClass_17 (by decide) ?_
    exact W.iret hx hb hr (fun t ht hW => ⟨by rw [fX_newClass, if_pos c6] <;> rfl, by rw [ht, fX_newClass, if_pos c6]; exact hP, hS.F ht⟩) hS.2.2 dX0_newClass_18
  · refine lv_aload_n hx hb dX0_newClass_9 rfl (lv_at hl 0 rfl) ?_
    refine lv_iload_n hx hb dX0_newClass_10 rfl (lv_at hl 1 rfl) ?_
    refine kc_R [.int x1] [] ⟨hx, hb, hml, hown, hts⟩ (cX_mayBeParent l dC dI h0 qa qr qt cI cJ av nk rv nr tv nt pk pn x1) (cwV 1 hts gX0_newClass_X0_mayBeParent rfl rfl rfl (by decide +kernel) ⟨(Nat.le_of_ble_eq_true rfl), (Nat.le_of_ble_eq_true rfl)⟩) hP hK (ci := 0) (q0 := 0) rfl rfl rfl rfl hl.1 rfl (Nat.le_of_ble_eq_true rfl) dX0_newClass_11 ⟨Nat.zero_le _, Nat.zero_le _⟩ ?_
    refine lv_if_ne (tgt := 19) hx hb dX0_newClass_14 (by decide) (fun c14 => ?_) (fun c14 => ?_)
    · refine lv_aload_n hx hb dX0_newClass_19 rfl (lv_at hl 0 rfl) ?_
      refine va_get (D := (dC, dI)) (ci := 0) (v := .int (nI nk)) (C := RX0) (T := TX0) (N := 8) hx hb hts hin hown hK hP 0 rfl rfl 1 (by decide) (hts (.fieldLink RX0 17 "KindTable" "kindCount" "I") (by decide +kernel)) (fun _ h9 => h9) rfl dX0_newClass_20 ?_
      refine lv_istore_n (lv' := [(2, .int (nI nk)), (0, .ref h0), (1, .int x1)]) hx hb dX0_newClass_23 rfl hl (by decide) rfl (fun ls hl => ?_)
      refine lv_aload_n hx hb dX0_newClass_24 rfl (lv_at hl 1 rfl) ?_
      refine va_get (D := (dC, dI)) (ci := 0) (v := .ref qa) (C := RX0) (T := TX0) (N := 8) hx hb hts hin hown hK hP 0 rfl rfl 0 (by decide) (hts (.fieldLink RX0 9 "KindTable" "above" "[I") (by decide +kernel)) (fun _ h9 => h9) rfl dX0_newClass_25 ?_
      refine lv_iload_n hx hb dX0_newClass_28 rfl (lv_at hl 0 rfl) ?_
      refine lv_aload_n hx hb dX0_newClass_29 rfl (lv_at hl 1 rfl) ?_
      refine va_get (D := (dC, dI)) (ci := 0) (v := .ref qa) (C := RX0) (T := TX0) (N := 8) hx hb hts hin hown hK hP 0 rfl rfl 0 (by decide) (hts (.fieldLink RX0 9 "KindTable" "above" "[I") (by decide +kernel)) (fun _ h9 => h9) rfl dX0_newClass_30 ?_
      refine lv_iload_n hx hb dX0_newClass_33 rfl (lv_at hl 2 rfl) ?_
      refine va_iald hx hb hK hP 1 0 rfl rfl (vp_in_mono (kPar_in hnk.2 c14) hnk.2) dX0_newClass_34 ?_
      refine lv_iconst (v := 1) hx hb dX0_newClass_35 (by decide) ?_
      refine lv_iload_n hx hb dX0_newClass_36 rfl (lv_at hl 0 rfl) ?_
      refine lv_ishl hx hb dX0_newClass_37 ?_
      refine lv_ior hx hb dX0_newClass_38 ?_
      refine va_iast hx hb hK hP hD hS 1 0 rfl rfl (kNk_in hnk.2 c6) dX0_newClass_39 (fun H locs hP hD hS => ?_)
      have hP : va_P (dC, dI) vwCl (xW h0 qa qr qt cI cJ (upd av (nI nk).toNatClampNeg ((av x1.toNatClampNeg) ||| ((1 : Int32) <<< ((nI nk) &&& 31)))) nk rv nr tv nt pk pn) H := hP
      have hD : va_D _ (xW h0 qa qr qt cI cJ (upd av (nI nk).toNatClampNeg ((av x1.toNatClampNeg) ||| ((1 : Int32) <<< ((nI nk) &&& 31)))) nk rv nr tv nt pk pn) := hD
      refine lv_aload_n hx hb dX0_newClass_40 rfl (lv_at hl 1 rfl) ?_
      refine lv_dup hx hb dX0_newClass_41 rfl ?_
      refine va_get (D := (dC, dI)) (ci := 0) (v := .int (nI nk)) (C := RX0) (T := TX0) (N := 8) hx hb hts hin hown hK hP 0 rfl rfl 1 (by decide) (hts (.fieldLink RX0 17 "KindTable" "kindCount" "I") (by decide +kernel)) (fun _ h9 => h9) rfl dX0_newClass_42 ?_
      refine lv_iconst (v := 1) hx hb dX0_newClass_45 (by decide) ?_
      refine lv_iadd hx hb dX0_newClass_46 ?_
      refine kv_topi (y := nI (nk + 1)) (nI_1 nk) ?_
      refine va_put (D := (dC, dI)) (ci := 0) (v := .int (nI (nk + 1))) (ty := .int) (C := RX0) (T := TX0) (N := 8) hx hb hts hin tyX0 tyX0_ok nmX0 hown hK hP hD hS 0 rfl rfl 1 (by decide) (hts (.fieldLink RX0 17 "KindTable" "kindCount" "I") (by decide +kernel)) (fun _ h9 => h9) rfl (by decide +kernel) rfl rfl (Nat.le_of_ble_eq_true rfl) dX0_newClass_47 (fun H locs hP hD hS => ?_)
      have hP : va_P (dC, dI) vwCl (xW h0 qa qr qt cI cJ (upd av (nI nk).toNatClampNeg ((av x1.toNatClampNeg) ||| ((1 : Int32) <<< ((nI nk) &&& 31)))) (nk + 1) rv nr tv nt pk pn) H := hP
      have hD : va_D _ (xW h0 qa qr qt cI cJ (upd av (nI nk).toNatClampNeg ((av x1.toNatClampNeg) ||| ((1 : Int32) <<< ((nI nk) &&& 31)))) (nk + 1) rv nr tv nt pk pn) := hD
      refine lv_iload_n hx hb dX0_newClass_50 rfl (lv_at hl 0 rfl) ?_
      exact W.iret hx hb hr (fun t ht hW => ⟨by rw [fX_newClass, if_neg c6, if_neg c14] <;> rfl, by rw [ht, fX_newClass, if_neg c6, if_neg c14]; exact hP, hS.F ht⟩) hS.2.2 dX0_newClass_51
    · refine lv_iconst (v := -1) hx hb dX0_newClass_17 (by decide) ?_
      exact W.iret hx hb hr (fun t ht hW => ⟨by rw [fX_newClass, if_neg c6, if_pos c14] <;> rfl, by rw [ht, fX_newClass, if_neg c6, if_pos c14]; exact hP, hS.F ht⟩) hS.2.2 dX0_newClass_18
