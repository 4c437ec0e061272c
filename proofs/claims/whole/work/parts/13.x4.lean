theorem lgc0 {x y : Int64} : lg_cmp x y = 0 ↔ x = y := by
  unfold lg_cmp
  by_cases h : x > y
  · rw [if_pos h]
    exact ⟨fun q => absurd q (by decide), fun q => absurd h (by rw [q]; exact Int64.lt_irrefl)⟩
  · rw [if_neg h]
    by_cases h2 : x = y
    · rw [if_pos h2]; exact ⟨fun _ => h2, fun _ => rfl⟩
    · rw [if_neg h2]; exact ⟨fun q => absurd q (by decide), fun q => absurd q h2⟩
theorem nbR_f {nt : Nat} (h : nt = 300) : nbR none nt = -1 := if_pos h
theorem nbN_f {nt : Nat} (h : nt = 300) : nbN none nt = nt := if_pos h
theorem nbV_f {α : Type} {nt : Nat} {o n : α} (h : nt = 300) : nbV none nt o n = o := if_pos h
theorem nbR_n {nt : Nat} (h : nt ≠ 300) : nbR none nt = nI nt := if_neg h
theorem nbN_n {nt : Nat} (h : nt ≠ 300) : nbN none nt = nt + 1 := if_neg h
theorem nbV_n {α : Type} {nt : Nat} {o n : α} (h : nt ≠ 300) : nbV none nt o n = n := if_neg h
theorem knt_full {nt : Nat} (hnt : nt ≤ 300) (c : ¬ nI nt < (300 : Int32)) : nt = 300 := by
  rcases Nat.lt_or_ge nt 300 with q | q
  · exact absurd (nI_lt (b := 300) q (by decide)) c
  · omega
theorem knt_room {nt : Nat} (hnt : nt ≤ 300) (c : nI nt < (300 : Int32)) : nt < 300 := (nI_ltI (b := 300) (by omega) (by decide)).mp c
/-- how many places: a number below 16 -/
theorem plo_of (x : Int64) : ∃ N, N < 16 ∧ fX_placesOf x = nI N := by
  obtain ⟨n, hn, rfl⟩ := wb_of x
  have e1 : (15 : Int64) = lN (2 ^ 4 - 1) := by decide
  have e2 : (5 : Int32) = nI 5 := rfl
  refine ⟨n / 2 ^ 5 % 2 ^ 4, Nat.mod_lt (n / 2 ^ 5) (by decide : 0 < 2 ^ 4), ?_⟩
  unfold fX_placesOf
  rw [e2, wb_shr hn (by decide), e1, wb_mask (Nat.lt_of_le_of_lt (Nat.div_le_self _ _) hn) (by decide), lN_i]
theorem plo_in (x : Int64) : (0 : Int32) ≤ fX_placesOf x ∧ fX_placesOf x ≤ 15 := by
  obtain ⟨N, hN, e⟩ := plo_of x
  rw [e]
  exact ⟨nI_pos' (by omega), nI_le (b := 15) (by omega) (by decide)⟩
theorem chg_in {x2 x3 : Int32} {y : Int64} (c44 : ¬ x3 < 0) (c50 : ¬ fX_placesOf y < x3) (c54 : ¬ x2 < 0) (c62 : x2 ≤ fX_placesOf y - x3) : ¬ x2 + x3 < 0 ∧ x2 + x3 ≤ fX_placesOf y := by
  obtain ⟨N, hN, e⟩ := plo_of y
  rw [e] at c50 c62 ⊢
  obtain ⟨a, ha, rfl⟩ := nI_of c54
  obtain ⟨b, hb, rfl⟩ := nI_of c44
  have h1 : b ≤ N := Nat.not_lt.mp (fun q => c50 (nI_lt q hb))
  rw [pk_sub h1] at c62
  have h2 : a ≤ N - b := (nI_leI ha (by omega)).mp c62
  rw [nI_add]
  exact ⟨nI_pos (by omega), nI_le (by omega) (by omega)⟩

def wpo (o : Int64) : Nat → Nat → Int64 → Int64
  | 0, _, a => a
  | n + 1, k, a => wpo o n (k + 1) (fX_withPlace a (fX_placeOf o (nI k)))
def fX_meet (nk : Nat) (bl : Nat → Nat → Bool) (x1 x2 : Int32) : Int32 := if (bI (fX_isKind nk x1)) = 0 then (-1 : Int32) else if (bI (fX_isKind nk x2)) = 0 then (-1 : Int32) else mtop (fun k => bl x1.toNatClampNeg k && bl x2.toNatClampNeg k) nk
def wpI (x0 x2 : Int64) (x4 x5 : Int32) : Int64 := wpo x2 (x5.toNatClampNeg - x4.toNatClampNeg) x4.toNatClampNeg x0
set_option maxHeartbeats 4000000 in
set_option maxRecDepth 100000 in
theorem cX_withPlacesOf (l : Launch) (x0 : Int64) (x2 : Int64) (x4 : Int32) (x5 : Int32) (h4 : ¬ x4 < 0) (h45 : x4 ≤ x5) : Met l yX0_withPlacesOf wsX0_withPlacesOf ({ frames := 2, cells := 0, slots := 0, locals := 43 }) (kPs [.long x0, .long x2, .int x4, .int x5]) (k2_QcV (.long (wpI x0 x2 x4 x5))) 0 0 kNo := by
  refine Met.ofW (cc := cX0_withPlacesOf) (maxL := 9) (ret := (some .long)) (by decide) rfl ?_
  intro p e s m args below meth c s₁ B hml hv
  obtain rfl : args = ([.long x0, .long x2, .int x4, .int x5] : List Value).toArray := hv
  have hx := B.exec
  have hb := B.bytes
  have hr := B.returns
  have hts := atoms_spec (ws := wsX0_withPlacesOf) B.pre
  have hown : s.vm.findClass RX0 = some m.cls := findClass_of_methodNamed B.named
  have hlocks := B.notSynchronized
  have hl := lv_entry ([.long x0, .long x2, .int x4, .int x5]) (n := 9) (Nat.le_of_ble_eq_true rfl)
  rw [lg_entry_eq]
  generalize (lg_sl ([.long x0, .long x2, .int x4, .int x5]) ++ List.replicate (9 - (lg_sl ([.long x0, .long x2, .int x4, .int x5])).length) Slot.unset).toArray = ls at hl ⊢
  have hl : lv_has ls 9 [(0, .long x0), (2, .long x2), (4, .int x4), (5, .int x5)] := hl
  obtain ⟨f, hf, rfl⟩ := nI_of h4
  obtain ⟨t, htt, rfl⟩ := nI_of (x := x5) (fun q => h4 (Int32.lt_of_le_of_lt h45 q))
  have hft : f ≤ t := (nI_leI hf htt).mp h45
  refine lv_lload_n hx hb dX0_withPlacesOf_0 rfl (lv_at hl 0 rfl) ?_
  refine lv_lstore (lv' := [(6, .long x0), (0, .long x0), (2, .long x2), (4, .int (nI f)), (5, .int (nI t))]) hx hb dX0_withPlacesOf_1 hl (by decide) rfl (fun ls hl => ?_)
  refine lv_iload hx hb dX0_withPlacesOf_3 (lv_at hl 3 rfl) ?_
  refine lv_istore (lv' := [(8, .int (nI f)), (6, .long x0), (0, .long x0), (2, .long x2), (4, .int (nI f)), (5, .int (nI t))]) hx hb dX0_withPlacesOf_5 hl (by decide) rfl (fun ls hl => ?_)
  suffices loop : ∀ (n k : Nat) (x6 : Int64), k + n = t → wpo x2 n k x6 = wpI x0 x2 (nI f) (nI t) → ∀ (ls : Array Slot), lv_has ls 9 [(8, .int (nI k)), (6, .long x6), (0, .long x0), (2, .long x2), (4, .int (nI f)), (5, .int (nI t))] → W p l e (headSpec wsX0_withPlacesOf ({ frames := 2, cells := 0, slots := 0, locals := 43 })).room s m ([.long x0, .long x2, .int (nI f), .int (nI t)] : List Value).toArray below meth c s.heap [] 0 0 (MQ below (k2_QcV (.long (wpI x0 x2 (nI f) (nI t)))) ([.long x0, .long x2, .int (nI f), .int (nI t)] : List Value).toArray s 0 0 kNo) (F0 m 7 ls []) by
    exact loop (t - f) f x0 (by omega) (by rw [wpI, nI_clamp hf, nI_clamp htt]) ls (lv_sub hl [0, 1, 2, 3, 4, 5] rfl)
  intro n
  induction n with
  | zero =>
    intro k x6 hk he ls hl
    refine lv_iload hx hb dX0_withPlacesOf_7 (lv_at hl 0 rfl) ?_
    refine lv_iload hx hb dX0_withPlacesOf_9 (lv_at hl 5 rfl) ?_
    refine lv_icmp_ge (tgt := 33) hx hb dX0_withPlacesOf_11 (by decide) (fun c11 => ?_) (fun c11 => ?_)
    · refine lv_lload hx hb dX0_withPlacesOf_33 (lv_at hl 1 rfl) ?_
      exact W.lret hx hb hr (fun t ht hW => ⟨by rw [← he] <;> rfl, ht⟩) (fun _ h => by cases h) dX0_withPlacesOf_35
    · exact absurd (nI_le (by omega) (by omega)) c11
  | succ n ih =>
    intro k x6 hk he ls hl
    refine lv_iload hx hb dX0_withPlacesOf_7 (lv_at hl 0 rfl) ?_
    refine lv_iload hx hb dX0_withPlacesOf_9 (lv_at hl 5 rfl) ?_
    refine lv_icmp_ge (tgt := 33) hx hb dX0_withPlacesOf_11 (by decide) (fun c11 => ?_) (fun c11 => ?_)
    · exact absurd ((nI_leI (by omega) (by omega)).mp c11) (by omega)
    · refine lv_lload hx hb dX0_withPlacesOf_14 (lv_at hl 1 rfl) ?_
      refine lv_lload_n hx hb dX0_withPlacesOf_16 rfl (lv_at hl 3 rfl) ?_
      refine lv_iload hx hb dX0_withPlacesOf_17 (lv_at hl 0 rfl) ?_
      refine kc_S [.long x2, .int (nI k)] [.long x6] ⟨hx, hb, hml, hown, hts⟩ (cX_placeOf l x2 (nI k)) (cwS 2 hts gX0_withPlacesOf_X0_placeOf rfl rfl rfl (by decide +kernel) ⟨(Nat.le_of_ble_eq_true rfl), (Nat.le_of_ble_eq_true rfl)⟩) rfl hl.1 rfl (Nat.le_of_ble_eq_true rfl) dX0_withPlacesOf_19 ⟨Nat.zero_le _, Nat.zero_le _⟩ ?_
      refine kc_S [.long x6, .int (fX_placeOf x2 (nI k))] [] ⟨hx, hb, hml, hown, hts⟩ (cX_withPlace l x6 (fX_placeOf x2 (nI k))) (cwS 2 hts gX0_withPlacesOf_X0_withPlace rfl rfl rfl (by decide +kernel) ⟨(Nat.le_of_ble_eq_true rfl), (Nat.le_of_ble_eq_true rfl)⟩) rfl hl.1 rfl (Nat.le_of_ble_eq_true rfl) dX0_withPlacesOf_22 ⟨Nat.zero_le _, Nat.zero_le _⟩ ?_
      refine lv_lstore (lv' := [(6, .long (fX_withPlace x6 (fX_placeOf x2 (nI k)))), (8, .int (nI k)), (0, .long x0), (2, .long x2), (4, .int (nI f)), (5, .int (nI t))]) hx hb dX0_withPlacesOf_25 hl (by decide) rfl (fun ls hl => ?_)
      refine lv_iinc (v := nI (k + 1)) (lv' := [(8, .int (nI (k + 1))), (6, .long (fX_withPlace x6 (fX_placeOf x2 (nI k)))), (0, .long x0), (2, .long x2), (4, .int (nI f)), (5, .int (nI t))]) hx hb dX0_withPlacesOf_27 hl (k := 1) rfl (nI_1 k) (by decide) rfl (fun ls hl => ?_)
      refine lv_goto (tgt := 7) hx hb dX0_withPlacesOf_30 (by decide) ?_
      exact ih (k + 1) _ (by omega) he ls (lv_sub hl [0, 1, 2, 3, 4, 5] rfl)
set_option maxHeartbeats 4000000 in
set_option maxRecDepth 100000 in
theorem cX_meet (l : Launch) (dC : Nat → ClassId) (dI : Nat → Nat → Nat) (h0 qa qr qt : Nat) (cI cJ : ClassId) (av : Nat → Int32) (nk : Nat) (rv : Nat → Int32) (nr : Nat) (tv : Nat → Int64) (nt : Nat) (pk : Int32) (pn : Int64) (bl : Nat → Nat → Bool) (x1 : Int32) (x2 : Int32) (hAV : kAV bl av nk) (hnk : 20 ≤ nk ∧ nk ≤ 32) : Met l yX0_meet wsX0_meet ({ frames := 1, cells := 0, slots := 0, locals := 21 }) (kPr (dC, dI) vwCl [(cI, .int), (cJ, .long)] (xW h0 qa qr qt cI cJ av nk rv nr tv nt pk pn) [.ref h0, .int x1, .int x2]) (k2_QcV (.int (fX_meet nk bl x1 x2))) 0 0 kNo := by
  refine Met.ofW (cc := cX0_meet) (maxL := 5) (ret := (some .int)) (by decide) rfl ?_
  intro p e s m args below meth c s₁ B hml hv
  obtain ⟨rfl, hP, hK⟩ := hv
  have hx := B.exec
  have hb := B.bytes
  have hr := B.returns
  have hts := atoms_spec (ws := wsX0_meet) B.pre
  have hown : s.vm.findClass RX0 = some m.cls := findClass_of_methodNamed B.named
  have hlocks := B.notSynchronized
  have hin : ∀ w ∈ u_ws RX0 TX0 8, w ∈ wsX0_meet := by decide +kernel
  have hl := lv_entry ([.ref h0, .int x1, .int x2]) (n := 5) (Nat.le_of_ble_eq_true rfl)
  rw [lg_entry_eq]
  generalize (lg_sl ([.ref h0, .int x1, .int x2]) ++ List.replicate (5 - (lg_sl ([.ref h0, .int x1, .int x2])).length) Slot.unset).toArray = ls at hl ⊢
  have hl : lv_has ls 5 [(0, .ref h0), (1, .int x1), (2, .int x2)] := hl
  refine lv_aload_n hx hb dX0_meet_0 rfl (lv_at hl 0 rfl) ?_
  refine lv_iload_n hx hb dX0_meet_1 rfl (lv_at hl 1 rfl) ?_
  refine kc_R [.int x1] [] ⟨hx, hb, hml, hown, hts⟩ (cX_isKind l dC dI h0 qa qr qt cI cJ av nk rv nr tv nt pk pn x1) (cwV 1 hts gX0_meet_X0_isKind rfl rfl rfl (by decide +kernel) ⟨(Nat.le_of_ble_eq_true rfl), (Nat.le_of_ble_eq_true rfl)⟩) hP hK (ci := 0) (q0 := 0) rfl rfl rfl rfl hl.1 rfl (Nat.le_of_ble_eq_true rfl) dX0_meet_2 ⟨Nat.zero_le _, Nat.zero_le _⟩ ?_
  refine lv_if_eq (tgt := 16) hx hb dX0_meet_5 (by decide) (fun c5 => ?_) (fun c5 => ?_)
  · refine lv_iconst (v := -1) hx hb dX0_meet_16 (by decide) ?_
    exact W.iret hx hb hr (fun t ht hW => ⟨by rw [fX_meet, if_pos c5] <;> rfl, ht⟩) (fun _ h => by cases h) dX0_meet_17
  · refine lv_aload_n hx hb dX0_meet_8 rfl (lv_at hl 0 rfl) ?_
    refine lv_iload_n hx hb dX0_meet_9 rfl (lv_at hl 2 rfl) ?_
    refine kc_R [.int x2] [] ⟨hx, hb, hml, hown, hts⟩ (cX_isKind l dC dI h0 qa qr qt cI cJ av nk rv nr tv nt pk pn x2) (cwV 1 hts gX0_meet_X0_isKind rfl rfl rfl (by decide +kernel) ⟨(Nat.le_of_ble_eq_true rfl), (Nat.le_of_ble_eq_true rfl)⟩) hP hK (ci := 0) (q0 := 0) rfl rfl rfl rfl hl.1 rfl (Nat.le_of_ble_eq_true rfl) dX0_meet_10 ⟨Nat.zero_le _, Nat.zero_le _⟩ ?_
    refine lv_if_ne (tgt := 18) hx hb dX0_meet_13 (by decide) (fun c13 => ?_) (fun c13 => ?_)
    · refine lv_aload_n hx hb dX0_meet_18 rfl (lv_at hl 0 rfl) ?_
      refine va_get (D := (dC, dI)) (ci := 0) (v := .ref qa) (C := RX0) (T := TX0) (N := 8) hx hb hts hin hown hK hP 0 rfl rfl 0 (by decide) (hts (.fieldLink RX0 9 "KindTable" "above" "[I") (by decide +kernel)) (fun _ h9 => h9) rfl dX0_meet_19 ?_
      refine lv_iload_n hx hb dX0_meet_22 rfl (lv_at hl 1 rfl) ?_
      refine va_iald hx hb hK hP 1 0 rfl rfl (vp_in_mono (kK_in hnk.2 c5) hnk.2) dX0_meet_23 ?_
      refine lv_aload_n hx hb dX0_meet_24 rfl (lv_at hl 0 rfl) ?_
      refine va_get (D := (dC, dI)) (ci := 0) (v := .ref qa) (C := RX0) (T := TX0) (N := 8) hx hb hts hin hown hK hP 0 rfl rfl 0 (by decide) (hts (.fieldLink RX0 9 "KindTable" "above" "[I") (by decide +kernel)) (fun _ h9 => h9) rfl dX0_meet_25 ?_
      refine lv_iload_n hx hb dX0_meet_28 rfl (lv_at hl 2 rfl) ?_
      refine va_iald hx hb hK hP 1 0 rfl rfl (vp_in_mono (kK_in hnk.2 c13) hnk.2) dX0_meet_29 ?_
      refine lv_iand hx hb dX0_meet_30 ?_
      refine lv_istore_n (lv' := [(3, .int ((av x1.toNatClampNeg) &&& (av x2.toNatClampNeg))), (0, .ref h0), (1, .int x1), (2, .int x2)]) hx hb dX0_meet_31 rfl hl (by decide) rfl (fun ls hl => ?_)
      refine lv_aload_n hx hb dX0_meet_32 rfl (lv_at hl 1 rfl) ?_
      refine va_get (D := (dC, dI)) (ci := 0) (v := .int (nI nk)) (C := RX0) (T := TX0) (N := 8) hx hb hts hin hown hK hP 0 rfl rfl 1 (by decide) (hts (.fieldLink RX0 17 "KindTable" "kindCount" "I") (by decide +kernel)) (fun _ h9 => h9) rfl dX0_meet_33 ?_
      refine lv_iconst (v := 1) hx hb dX0_meet_36 (by decide) ?_
      refine lv_isub hx hb dX0_meet_37 ?_
      refine lv_istore (lv' := [(4, .int ((nI nk) - (1 : Int32))), (3, .int ((av x1.toNatClampNeg) &&& (av x2.toNatClampNeg))), (0, .ref h0), (1, .int x1), (2, .int x2)]) hx hb dX0_meet_38 hl (by decide) rfl (fun ls hl => ?_)
      suffices loop : ∀ (q : Nat) (x4 : Int32), q ≤ nk → x4 = nI q - 1 → mtop (fun k => bl x1.toNatClampNeg k && bl x2.toNatClampNeg k) q = mtop (fun k => bl x1.toNatClampNeg k && bl x2.toNatClampNeg k) nk → ∀ (ls : Array Slot), lv_has ls 5 [(4, .int x4), (3, .int ((av x1.toNatClampNeg) &&& (av x2.toNatClampNeg))), (0, .ref h0), (1, .int x1), (2, .int x2)] → W p l e (headSpec wsX0_meet ({ frames := 1, cells := 0, slots := 0, locals := 21 })).room s m ([.ref h0, .int x1, .int x2] : List Value).toArray below meth c s.heap [] 0 0 (MQ below (k2_QcV (.int (fX_meet nk bl x1 x2))) ([.ref h0, .int x1, .int x2] : List Value).toArray s 0 0 kNo) (F0 m 40 ls []) by
        exact loop nk _ (Nat.le_refl nk) rfl rfl ls (lv_sub hl [0, 1, 2, 3, 4] rfl)
      intro q
      induction q with
      | zero =>
        intro x4 hq ex hm ls hl
        refine lv_iload hx hb dX0_meet_40 (lv_at hl 0 rfl) ?_
        refine lv_if_lt (tgt := 63) hx hb dX0_meet_42 (by decide) (fun c42 => ?_) (fun c42 => ?_)
        · refine lv_iconst (v := -1) hx hb dX0_meet_63 (by decide) ?_
          exact W.iret hx hb hr (fun t ht hW => ⟨by rw [fX_meet, if_neg c5, if_neg c13, ← hm] <;> rfl, ht⟩) (fun _ h => by cases h) dX0_meet_64
        · exact absurd (by rw [ex]; decide) c42
      | succ q ih =>
        intro x4 hq ex hm ls hl
        rw [nI_pred] at ex
        subst ex
        refine lv_iload hx hb dX0_meet_40 (lv_at hl 0 rfl) ?_
        refine lv_if_lt (tgt := 63) hx hb dX0_meet_42 (by decide) (fun c42 => ?_) (fun c42 => ?_)
        · exact absurd c42 (nI_pos (by omega))
        · refine lv_iload_n hx hb dX0_meet_45 rfl (lv_at hl 1 rfl) ?_
          refine lv_iload hx hb dX0_meet_46 (lv_at hl 0 rfl) ?_
          refine lv_iushr hx hb dX0_meet_48 rfl ?_
          refine lv_iconst (v := 1) hx hb dX0_meet_49 (by decide) ?_
          refine lv_iand hx hb dX0_meet_50 ?_
          refine lv_if_eq (tgt := 57) hx hb dX0_meet_51 (by decide) (fun c51 => ?_) (fun c51 => ?_)
          · refine lv_iinc (v := nI q - 1) (lv' := [(4, .int (nI q - 1)), (3, .int ((av x1.toNatClampNeg) &&& (av x2.toNatClampNeg))), (0, .ref h0), (1, .int x1), (2, .int x2)]) hx hb dX0_meet_57 hl (k := 0) rfl (by rw [Int32.sub_eq_add_neg]; rfl) (by decide) rfl (fun ls hl => ?_)
            refine lv_goto (tgt := 40) hx hb dX0_meet_60 (by decide) ?_
            exact ih _ (by omega) rfl (by rw [← hm, mtop, if_neg (by rw [(meet_bit hAV hnk.2 (kK_in hnk.2 c5) (kK_in hnk.2 c13) (by omega)).mp c51]; decide)]) ls (lv_sub hl [0, 1, 2, 3, 4] rfl)
          · refine lv_iload hx hb dX0_meet_54 (lv_at hl 0 rfl) ?_
            exact W.iret hx hb hr (fun t ht hW => ⟨by rw [fX_meet, if_neg c5, if_neg c13, ← hm, mtop, if_pos (by cases hz : (bl x1.toNatClampNeg q && bl x2.toNatClampNeg q); exact absurd ((meet_bit hAV hnk.2 (kK_in hnk.2 c5) (kK_in hnk.2 c13) (by omega)).mpr hz) c51; rfl)], ht⟩) (fun _ h => by cases h) dX0_meet_56
    · refine lv_iconst (v := -1) hx hb dX0_meet_16 (by decide) ?_
      exact W.iret hx hb hr (fun t ht hW => ⟨by rw [fX_meet, if_neg c5, if_pos c13] <;> rfl, ht⟩) (fun _ h => by cases h) dX0_meet_17
