def fX_isPlain  (x0 : Int32) : Bool := if x0 < (1 : Int32) then false else if (6 : Int32) < x0 then false else true
set_option maxHeartbeats 4000000 in
set_option maxRecDepth 100000 in
theorem cX_isPlain (l : Launch) (x0 : Int32) : Met l yX0_isPlain wsX0_isPlain ({ frames := 0, cells := 0, slots := 0, locals := 0 }) (kPs [.int x0]) (k2_QcV (.int (bI (fX_isPlain x0)))) 0 0 kNo := by
  refine Met.ofW (cc := cX0_isPlain) (maxL := 1) (ret := (some .boolean)) (by decide) rfl ?_
  intro p e s m args below meth c s₁ B hml hv
  obtain rfl : args = ([.int x0] : List Value).toArray := hv
  have hx := B.exec
  have hb := B.bytes
  have hr := B.returns
  have hts := atoms_spec (ws := wsX0_isPlain) B.pre
  have hown : s.vm.findClass RX0 = some m.cls := findClass_of_methodNamed B.named
  have hlocks := B.notSynchronized
  have hl := lv_entry ([.int x0]) (n := 1) (Nat.le_of_ble_eq_true rfl)
  rw [lg_entry_eq]
  generalize (lg_sl ([.int x0]) ++ List.replicate (1 - (lg_sl ([.int x0])).length) Slot.unset).toArray = ls at hl ⊢
  have hl : lv_has ls 1 [(0, .int x0)] := hl
  refine lv_iload_n hx hb dX0_isPlain_0 rfl (lv_at hl 0 rfl) ?_
  refine lv_iconst (v := 1) hx hb dX0_isPlain_1 (by decide) ?_
  refine lv_icmp_lt (tgt := 15) hx hb dX0_isPlain_2 (by decide) (fun c2 => ?_) (fun c2 => ?_)
  · refine lv_iconst (v := 0) hx hb dX0_isPlain_15 (by decide) ?_
    exact W.zret hx hb hr rfl (fun t ht hW => ⟨by rw [fX_isPlain, if_pos c2] <;> rfl, ht⟩) (fun _ h => by cases h) dX0_isPlain_16
  · refine lv_iload_n hx hb dX0_isPlain_5 rfl (lv_at hl 0 rfl) ?_
    refine lv_bipush (v := 6) hx hb dX0_isPlain_6 (by decide) ?_
    refine lv_icmp_gt (tgt := 15) hx hb dX0_isPlain_8 (by decide) (fun c8 => ?_) (fun c8 => ?_)
    · refine lv_iconst (v := 0) hx hb dX0_isPlain_15 (by decide) ?_
      exact W.zret hx hb hr rfl (fun t ht hW => ⟨by rw [fX_isPlain, if_neg c2, if_pos c8] <;> rfl, ht⟩) (fun _ h => by cases h) dX0_isPlain_16
    · refine lv_iconst (v := 1) hx hb dX0_isPlain_11 (by decide) ?_
      refine lv_goto (tgt := 16) hx hb dX0_isPlain_12 (by decide) ?_
      exact W.zret hx hb hr rfl (fun t ht hW => ⟨by rw [fX_isPlain, if_neg c2, if_neg c8] <;> rfl, ht⟩) (fun _ h => by cases h) dX0_isPlain_16
def fX_isBox  (x0 : Int32) : Bool := if x0 < (9 : Int32) then false else if (14 : Int32) < x0 then false else true
set_option maxHeartbeats 4000000 in
set_option maxRecDepth 100000 in
theorem cX_isBox (l : Launch) (x0 : Int32) : Met l yX0_isBox wsX0_isBox ({ frames := 0, cells := 0, slots := 0, locals := 0 }) (kPs [.int x0]) (k2_QcV (.int (bI (fX_isBox x0)))) 0 0 kNo := by
  refine Met.ofW (cc := cX0_isBox) (maxL := 1) (ret := (some .boolean)) (by decide) rfl ?_
  intro p e s m args below meth c s₁ B hml hv
  obtain rfl : args = ([.int x0] : List Value).toArray := hv
  have hx := B.exec
  have hb := B.bytes
  have hr := B.returns
  have hts := atoms_spec (ws := wsX0_isBox) B.pre
  have hown : s.vm.findClass RX0 = some m.cls := findClass_of_methodNamed B.named
  have hlocks := B.notSynchronized
  have hl := lv_entry ([.int x0]) (n := 1) (Nat.le_of_ble_eq_true rfl)
  rw [lg_entry_eq]
  generalize (lg_sl ([.int x0]) ++ List.replicate (1 - (lg_sl ([.int x0])).length) Slot.unset).toArray = ls at hl ⊢
  have hl : lv_has ls 1 [(0, .int x0)] := hl
  refine lv_iload_n hx hb dX0_isBox_0 rfl (lv_at hl 0 rfl) ?_
  refine lv_bipush (v := 9) hx hb dX0_isBox_1 (by decide) ?_
  refine lv_icmp_lt (tgt := 16) hx hb dX0_isBox_3 (by decide) (fun c3 => ?_) (fun c3 => ?_)
  · refine lv_iconst (v := 0) hx hb dX0_isBox_16 (by decide) ?_
    exact W.zret hx hb hr rfl (fun t ht hW => ⟨by rw [fX_isBox, if_pos c3] <;> rfl, ht⟩) (fun _ h => by cases h) dX0_isBox_17
  · refine lv_iload_n hx hb dX0_isBox_6 rfl (lv_at hl 0 rfl) ?_
    refine lv_bipush (v := 14) hx hb dX0_isBox_7 (by decide) ?_
    refine lv_icmp_gt (tgt := 16) hx hb dX0_isBox_9 (by decide) (fun c9 => ?_) (fun c9 => ?_)
    · refine lv_iconst (v := 0) hx hb dX0_isBox_16 (by decide) ?_
      exact W.zret hx hb hr rfl (fun t ht hW => ⟨by rw [fX_isBox, if_neg c3, if_pos c9] <;> rfl, ht⟩) (fun _ h => by cases h) dX0_isBox_17
    · refine lv_iconst (v := 1) hx hb dX0_isBox_12 (by decide) ?_
      refine lv_goto (tgt := 17) hx hb dX0_isBox_13 (by decide) ?_
      exact W.zret hx hb hr rfl (fun t ht hW => ⟨by rw [fX_isBox, if_neg c3, if_neg c9] <;> rfl, ht⟩) (fun _ h => by cases h) dX0_isBox_17
def fX_isOfNumbers  (x0 : Int32) : Bool := if x0 = (2 : Int32) then true else if x0 = (3 : Int32) then true else if x0 = (5 : Int32) then true else if x0 = (6 : Int32) then true else false
set_option maxHeartbeats 4000000 in
set_option maxRecDepth 100000 in
theorem cX_isOfNumbers (l : Launch) (x0 : Int32) : Met l yX0_isOfNumbers wsX0_isOfNumbers ({ frames := 0, cells := 0, slots := 0, locals := 0 }) (kPs [.int x0]) (k2_QcV (.int (bI (fX_isOfNumbers x0)))) 0 0 kNo := by
  refine Met.ofW (cc := cX0_isOfNumbers) (maxL := 1) (ret := (some .boolean)) (by decide) rfl ?_
  intro p e s m args below meth c s₁ B hml hv
  obtain rfl : args = ([.int x0] : List Value).toArray := hv
  have hx := B.exec
  have hb := B.bytes
  have hr := B.returns
  have hts := atoms_spec (ws := wsX0_isOfNumbers) B.pre
  have hown : s.vm.findClass RX0 = some m.cls := findClass_of_methodNamed B.named
  have hlocks := B.notSynchronized
  have hl := lv_entry ([.int x0]) (n := 1) (Nat.le_of_ble_eq_true rfl)
  rw [lg_entry_eq]
  generalize (lg_sl ([.int x0]) ++ List.replicate (1 - (lg_sl ([.int x0])).length) Slot.unset).toArray = ls at hl ⊢
  have hl : lv_has ls 1 [(0, .int x0)] := hl
  refine lv_iload_n hx hb dX0_isOfNumbers_0 rfl (lv_at hl 0 rfl) ?_
  refine lv_iconst (v := 2) hx hb dX0_isOfNumbers_1 (by decide) ?_
  refine lv_icmp_eq (tgt := 21) hx hb dX0_isOfNumbers_2 (by decide) (fun c2 => ?_) (fun c2 => ?_)
  · refine lv_iconst (v := 1) hx hb dX0_isOfNumbers_21 (by decide) ?_
    refine lv_goto (tgt := 26) hx hb dX0_isOfNumbers_22 (by decide) ?_
    exact W.zret hx hb hr rfl (fun t ht hW => ⟨by rw [fX_isOfNumbers, if_pos c2] <;> rfl, ht⟩) (fun _ h => by cases h) dX0_isOfNumbers_26
  · refine lv_iload_n hx hb dX0_isOfNumbers_5 rfl (lv_at hl 0 rfl) ?_
    refine lv_iconst (v := 3) hx hb dX0_isOfNumbers_6 (by decide) ?_
    refine lv_icmp_eq (tgt := 21) hx hb dX0_isOfNumbers_7 (by decide) (fun c7 => ?_) (fun c7 => ?_)
    · refine lv_iconst (v := 1) hx hb dX0_isOfNumbers_21 (by decide) ?_
      refine lv_goto (tgt := 26) hx hb dX0_isOfNumbers_22 (by decide) ?_
      exact W.zret hx hb hr rfl (fun t ht hW => ⟨by rw [fX_isOfNumbers, if_neg c2, if_pos c7] <;> rfl, ht⟩) (fun _ h => by cases h) dX0_isOfNumbers_26
    · refine lv_iload_n hx hb dX0_isOfNumbers_10 rfl (lv_at hl 0 rfl) ?_
      refine lv_iconst (v := 5) hx hb dX0_isOfNumbers_11 (by decide) ?_
      refine lv_icmp_eq (tgt := 21) hx hb dX0_isOfNumbers_12 (by decide) (fun c12 => ?_) (fun c12 => ?_)
      · refine lv_iconst (v := 1) hx hb dX0_isOfNumbers_21 (by decide) ?_
        refine lv_goto (tgt := 26) hx hb dX0_isOfNumbers_22 (by decide) ?_
        exact W.zret hx hb hr rfl (fun t ht hW => ⟨by rw [fX_isOfNumbers, if_neg c2, if_neg c7, if_pos c12] <;> rfl, ht⟩) (fun _ h => by cases h) dX0_isOfNumbers_26
      · refine lv_iload_n hx hb dX0_isOfNumbers_15 rfl (lv_at hl 0 rfl) ?_
        refine lv_bipush (v := 6) hx hb dX0_isOfNumbers_16 (by decide) ?_
        refine lv_icmp_ne (tgt := 25) hx hb dX0_isOfNumbers_18 (by decide) (fun c18 => ?_) (fun c18 => ?_)
        · refine lv_iconst (v := 0) hx hb dX0_isOfNumbers_25 (by decide) ?_
          exact W.zret hx hb hr rfl (fun t ht hW => ⟨by rw [fX_isOfNumbers, if_neg c2, if_neg c7, if_neg c12, if_neg c18] <;> rfl, ht⟩) (fun _ h => by cases h) dX0_isOfNumbers_26
        · refine lv_iconst (v := 1) hx hb dX0_isOfNumbers_21 (by decide) ?_
          refine lv_goto (tgt := 26) hx hb dX0_isOfNumbers_22 (by decide) ?_
          exact W.zret hx hb hr rfl (fun t ht hW => ⟨by rw [fX_isOfNumbers, if_neg c2, if_neg c7, if_neg c12, if_pos c18] <;> rfl, ht⟩) (fun _ h => by cases h) dX0_isOfNumbers_26
def fX_mayWiden  (x0 : Int32) (x1 : Int32) : Bool := if x0 = x1 then true else if x0 = (2 : Int32) then if x1 = (3 : Int32) then true else if x1 = (5 : Int32) then true else if x1 = (6 : Int32) then true else false else if x0 = (3 : Int32) then if x1 = (5 : Int32) then true else if x1 = (6 : Int32) then true else false else if x0 = (4 : Int32) then if x1 = (5 : Int32) then true else if x1 = (6 : Int32) then true else false else if x0 = (5 : Int32) then if x1 = (6 : Int32) then true else false else false
set_option maxHeartbeats 4000000 in
set_option maxRecDepth 100000 in
theorem cX_mayWiden (l : Launch) (x0 : Int32) (x1 : Int32) : Met l yX0_mayWiden wsX0_mayWiden ({ frames := 0, cells := 0, slots := 0, locals := 0 }) (kPs [.int x0, .int x1]) (k2_QcV (.int (bI (fX_mayWiden x0 x1)))) 0 0 kNo := by
  refine Met.ofW (cc := cX0_mayWiden) (maxL := 2) (ret := (some .boolean)) (by decide) rfl ?_
  intro p e s m args below meth c s₁ B hml hv
  obtain rfl : args = ([.int x0, .int x1] : List Value).toArray := hv
  have hx := B.exec
  have hb := B.bytes
  have hr := B.returns
  have hts := atoms_spec (ws := wsX0_mayWiden) B.pre
  have hown : s.vm.findClass RX0 = some m.cls := findClass_of_methodNamed B.named
  have hlocks := B.notSynchronized
  have hl := lv_entry ([.int x0, .int x1]) (n := 2) (Nat.le_of_ble_eq_true rfl)
  rw [lg_entry_eq]
  generalize (lg_sl ([.int x0, .int x1]) ++ List.replicate (2 - (lg_sl ([.int x0, .int x1])).length) Slot.unset).toArray = ls at hl ⊢
  have hl : lv_has ls 2 [(0, .int x0), (1, .int x1)] := hl
  refine lv_iload_n hx hb dX0_mayWiden_0 rfl (lv_at hl 0 rfl) ?_
  refine lv_iload_n hx hb dX0_mayWiden_1 rfl (lv_at hl 1 rfl) ?_
  refine lv_icmp_ne (tgt := 7) hx hb dX0_mayWiden_2 (by decide) (fun c2 => ?_) (fun c2 => ?_)
  · refine lv_iload_n hx hb dX0_mayWiden_7 rfl (lv_at hl 0 rfl) ?_
    by_cases c8_2 : x0 = (2 : Int32)
    · refine lv_tableIn (tgt := 40) hx hb dX0_mayWiden_8 (by rw [c8_2]; decide) (by rw [c8_2]; decide) (off := 32) (by rw [c8_2]; decide) (by decide) ?_
      refine lv_iload_n hx hb dX0_mayWiden_40 rfl (lv_at hl 1 rfl) ?_
      refine lv_iconst (v := 3) hx hb dX0_mayWiden_41 (by decide) ?_
      refine lv_icmp_eq (tgt := 56) hx hb dX0_mayWiden_42 (by decide) (fun c42 => ?_) (fun c42 => ?_)
      · refine lv_iconst (v := 1) hx hb dX0_mayWiden_56 (by decide) ?_
        refine lv_goto (tgt := 61) hx hb dX0_mayWiden_57 (by decide) ?_
        exact W.zret hx hb hr rfl (fun t ht hW => ⟨by rw [fX_mayWiden, if_neg c2, if_pos c8_2, if_pos c42] <;> rfl, ht⟩) (fun _ h => by cases h) dX0_mayWiden_61
      · refine lv_iload_n hx hb dX0_mayWiden_45 rfl (lv_at hl 1 rfl) ?_
        refine lv_iconst (v := 5) hx hb dX0_mayWiden_46 (by decide) ?_
        refine lv_icmp_eq (tgt := 56) hx hb dX0_mayWiden_47 (by decide) (fun c47 => ?_) (fun c47 => ?_)
        · refine lv_iconst (v := 1) hx hb dX0_mayWiden_56 (by decide) ?_
          refine lv_goto (tgt := 61) hx hb dX0_mayWiden_57 (by decide) ?_
          exact W.zret hx hb hr rfl (fun t ht hW => ⟨by rw [fX_mayWiden, if_neg c2, if_pos c8_2, if_neg c42, if_pos c47] <;> rfl, ht⟩) (fun _ h => by cases h) dX0_mayWiden_61
        · refine lv_iload_n hx hb dX0_mayWiden_50 rfl (lv_at hl 1 rfl) ?_
          refine lv_bipush (v := 6) hx hb dX0_mayWiden_51 (by decide) ?_
          refine lv_icmp_ne (tgt := 60) hx hb dX0_mayWiden_53 (by decide) (fun c53 => ?_) (fun c53 => ?_)
          · refine lv_iconst (v := 0) hx hb dX0_mayWiden_60 (by decide) ?_
            exact W.zret hx hb hr rfl (fun t ht hW => ⟨by rw [fX_mayWiden, if_neg c2, if_pos c8_2, if_neg c42, if_neg c47, if_neg c53] <;> rfl, ht⟩) (fun _ h => by cases h) dX0_mayWiden_61
          · refine lv_iconst (v := 1) hx hb dX0_mayWiden_56 (by decide) ?_
            refine lv_goto (tgt := 61) hx hb dX0_mayWiden_57 (by decide) ?_
            exact W.zret hx hb hr rfl (fun t ht hW => ⟨by rw [fX_mayWiden, if_neg c2, if_pos c8_2, if_neg c42, if_neg c47, if_pos c53] <;> rfl, ht⟩) (fun _ h => by cases h) dX0_mayWiden_61
    by_cases c8_3 : x0 = (3 : Int32)
    · refine lv_tableIn (tgt := 62) hx hb dX0_mayWiden_8 (by rw [c8_3]; decide) (by rw [c8_3]; decide) (off := 54) (by rw [c8_3]; decide) (by decide) ?_
      refine lv_iload_n hx hb dX0_mayWiden_62 rfl (lv_at hl 1 rfl) ?_
      refine lv_iconst (v := 5) hx hb dX0_mayWiden_63 (by decide) ?_
      refine lv_icmp_eq (tgt := 73) hx hb dX0_mayWiden_64 (by decide) (fun c64 => ?_) (fun c64 => ?_)
      · refine lv_iconst (v := 1) hx hb dX0_mayWiden_73 (by decide) ?_
        refine lv_goto (tgt := 78) hx hb dX0_mayWiden_74 (by decide) ?_
        exact W.zret hx hb hr rfl (fun t ht hW => ⟨by rw [fX_mayWiden, if_neg c2, if_neg c8_2, if_pos c8_3, if_pos c64] <;> rfl, ht⟩) (fun _ h => by cases h) dX0_mayWiden_78
      · refine lv_iload_n hx hb dX0_mayWiden_67 rfl (lv_at hl 1 rfl) ?_
        refine lv_bipush (v := 6) hx hb dX0_mayWiden_68 (by decide) ?_
        refine lv_icmp_ne (tgt := 77) hx hb dX0_mayWiden_70 (by decide) (fun c70 => ?_) (fun c70 => ?_)
        · refine lv_iconst (v := 0) hx hb dX0_mayWiden_77 (by decide) ?_
          exact W.zret hx hb hr rfl (fun t ht hW => ⟨by rw [fX_mayWiden, if_neg c2, if_neg c8_2, if_pos c8_3, if_neg c64, if_neg c70] <;> rfl, ht⟩) (fun _ h => by cases h) dX0_mayWiden_78
        · refine lv_iconst (v := 1) hx hb dX0_mayWiden_73 (by decide) ?_
          refine lv_goto (tgt := 78) hx hb dX0_mayWiden_74 (by decide) ?_
          exact W.zret hx hb hr rfl (fun t ht hW => ⟨by rw [fX_mayWiden, if_neg c2, if_neg c8_2, if_pos c8_3, if_neg c64, if_pos c70] <;> rfl, ht⟩) (fun _ h => by cases h) dX0_mayWiden_78
    by_cases c8_4 : x0 = (4 : Int32)
    · refine lv_tableIn (tgt := 62) hx hb dX0_mayWiden_8 (by rw [c8_4]; decide) (by rw [c8_4]; decide) (off := 54) (by rw [c8_4]; decide) (by decide) ?_
      refine lv_iload_n hx hb dX0_mayWiden_62 rfl (lv_at hl 1 rfl) ?_
      refine lv_iconst (v := 5) hx hb dX0_mayWiden_63 (by decide) ?_
      refine lv_icmp_eq (tgt := 73) hx hb dX0_mayWiden_64 (by decide) (fun c64 => ?_) (fun c64 => ?_)
      · refine lv_iconst (v := 1) hx hb dX0_mayWiden_73 (by decide) ?_
        refine lv_goto (tgt := 78) hx hb dX0_mayWiden_74 (by decide) ?_
        exact W.zret hx hb hr rfl (fun t ht hW => ⟨by rw [fX_mayWiden, if_neg c2, if_neg c8_2, if_neg c8_3, if_pos c8_4, if_pos c64] <;> rfl, ht⟩) (fun _ h => by cases h) dX0_mayWiden_78
      · refine lv_iload_n hx hb dX0_mayWiden_67 rfl (lv_at hl 1 rfl) ?_
        refine lv_bipush (v := 6) hx hb dX0_mayWiden_68 (by decide) ?_
        refine lv_icmp_ne (tgt := 77) hx hb dX0_mayWiden_70 (by decide) (fun c70 => ?_) (fun c70 => ?_)
        · refine lv_iconst (v := 0) hx hb dX0_mayWiden_77 (by decide) ?_
          exact W.zret hx hb hr rfl (fun t ht hW => ⟨by rw [fX_mayWiden, if_neg c2, if_neg c8_2, if_neg c8_3, if_pos c8_4, if_neg c64, if_neg c70] <;> rfl, ht⟩) (fun _ h => by cases h) dX0_mayWiden_78
        · refine lv_iconst (v := 1) hx hb dX0_mayWiden_73 (by decide) ?_
          refine lv_goto (tgt := 78) hx hb dX0_mayWiden_74 (by decide) ?_
          exact W.zret hx hb hr rfl (fun t ht hW => ⟨by rw [fX_mayWiden, if_neg c2, if_neg c8_2, if_neg c8_3, if_pos c8_4, if_neg c64, if_pos c70] <;> rfl, ht⟩) (fun _ h => by cases h) dX0_mayWiden_78
    by_cases c8_5 : x0 = (5 : Int32)
    · refine lv_tableIn (tgt := 79) hx hb dX0_mayWiden_8 (by rw [c8_5]; decide) (by rw [c8_5]; decide) (off := 71) (by rw [c8_5]; decide) (by decide) ?_
      refine lv_iload_n hx hb dX0_mayWiden_79 rfl (lv_at hl 1 rfl) ?_
      refine lv_bipush (v := 6) hx hb dX0_mayWiden_80 (by decide) ?_
      refine lv_icmp_ne (tgt := 89) hx hb dX0_mayWiden_82 (by decide) (fun c82 => ?_) (fun c82 => ?_)
      · refine lv_iconst (v := 0) hx hb dX0_mayWiden_89 (by decide) ?_
        exact W.zret hx hb hr rfl (fun t ht hW => ⟨by rw [fX_mayWiden, if_neg c2, if_neg c8_2, if_neg c8_3, if_neg c8_4, if_pos c8_5, if_neg c82] <;> rfl, ht⟩) (fun _ h => by cases h) dX0_mayWiden_90
      · refine lv_iconst (v := 1) hx hb dX0_mayWiden_85 (by decide) ?_
        refine lv_goto (tgt := 90) hx hb dX0_mayWiden_86 (by decide) ?_
        exact W.zret hx hb hr rfl (fun t ht hW => ⟨by rw [fX_mayWiden, if_neg c2, if_neg c8_2, if_neg c8_3, if_neg c8_4, if_pos c8_5, if_pos c82] <;> rfl, ht⟩) (fun _ h => by cases h) dX0_mayWiden_90
    refine lv_tableOut (tgt := 91) hx hb dX0_mayWiden_8 (by have h2 := lv_neT c8_2 (a := 2) (by decide); have h3 := lv_neT c8_3 (a := 3) (by decide); have h4 := lv_neT c8_4 (a := 4) (by decide); have h5 := lv_neT c8_5 (a := 5) (by decide); omega) (by decide) ?_
    refine lv_iconst (v := 0) hx hb dX0_mayWiden_91 (by decide) ?_
    exact W.zret hx hb hr rfl (fun t ht hW => ⟨by rw [fX_mayWiden, if_neg c2, if_neg c8_2, if_neg c8_3, if_neg c8_4, if_neg c8_5] <;> rfl, ht⟩) (fun _ h => by cases h) dX0_mayWiden_92
  · refine lv_iconst (v := 1) hx hb dX0_mayWiden_5 (by decide) ?_
    exact W.zret hx hb hr rfl (fun t ht hW => ⟨by rw [fX_mayWiden, if_pos c2] <;> rfl, ht⟩) (fun _ h => by cases h) dX0_mayWiden_6
def fX_mayUnbox  (x0 : Int32) (x1 : Int32) : Bool := if x0 = (7 : Int32) then true else if x0 = (8 : Int32) then (fX_isOfNumbers x1) else if (bI (fX_isBox x0)) = 0 then false else if (bI (fX_mayWiden (x0 - (8 : Int32)) x1)) = 0 then false else true
set_option maxHeartbeats 4000000 in
set_option maxRecDepth 100000 in
theorem cX_mayUnbox (l : Launch) (x0 : Int32) (x1 : Int32) : Met l yX0_mayUnbox wsX0_mayUnbox ({ frames := 1, cells := 0, slots := 0, locals := 21 }) (kPs [.int x0, .int x1]) (k2_QcV (.int (bI (fX_mayUnbox x0 x1)))) 0 0 kNo := by
  refine Met.ofW (cc := cX0_mayUnbox) (maxL := 2) (ret := (some .boolean)) (by decide) rfl ?_
  intro p e s m args below meth c s₁ B hml hv
  obtain rfl : args = ([.int x0, .int x1] : List Value).toArray := hv
  have hx := B.exec
  have hb := B.bytes
  have hr := B.returns
  have hts := atoms_spec (ws := wsX0_mayUnbox) B.pre
  have hown : s.vm.findClass RX0 = some m.cls := findClass_of_methodNamed B.named
  have hlocks := B.notSynchronized
  have hl := lv_entry ([.int x0, .int x1]) (n := 2) (Nat.le_of_ble_eq_true rfl)
  rw [lg_entry_eq]
  generalize (lg_sl ([.int x0, .int x1]) ++ List.replicate (2 - (lg_sl ([.int x0, .int x1])).length) Slot.unset).toArray = ls at hl ⊢
  have hl : lv_has ls 2 [(0, .int x0), (1, .int x1)] := hl
  refine lv_iload_n hx hb dX0_mayUnbox_0 rfl (lv_at hl 0 rfl) ?_
  refine lv_bipush (v := 7) hx hb dX0_mayUnbox_1 (by decide) ?_
  refine lv_icmp_ne (tgt := 8) hx hb dX0_mayUnbox_3 (by decide) (fun c3 => ?_) (fun c3 => ?_)
  · refine lv_iload_n hx hb dX0_mayUnbox_8 rfl (lv_at hl 0 rfl) ?_
    refine lv_bipush (v := 8) hx hb dX0_mayUnbox_9 (by decide) ?_
    refine lv_icmp_ne (tgt := 19) hx hb dX0_mayUnbox_11 (by decide) (fun c11 => ?_) (fun c11 => ?_)
    · refine lv_iload_n hx hb dX0_mayUnbox_19 rfl (lv_at hl 0 rfl) ?_
      refine kc_S [.int x0] [] ⟨hx, hb, hml, hown, hts⟩ (cX_isBox l x0) (cwS 1 hts gX0_mayUnbox_X0_isBox rfl rfl rfl (by decide +kernel) ⟨(Nat.le_of_ble_eq_true rfl), (Nat.le_of_ble_eq_true rfl)⟩) rfl hl.1 rfl (Nat.le_of_ble_eq_true rfl) dX0_mayUnbox_20 ⟨Nat.zero_le _, Nat.zero_le _⟩ ?_
      refine lv_if_eq (tgt := 41) hx hb dX0_mayUnbox_23 (by decide) (fun c23 => ?_) (fun c23 => ?_)
      · refine lv_iconst (v := 0) hx hb dX0_mayUnbox_41 (by decide) ?_
        exact W.zret hx hb hr rfl (fun t ht hW => ⟨by rw [fX_mayUnbox, if_neg c3, if_neg c11, if_pos c23] <;> rfl, ht⟩) (fun _ h => by cases h) dX0_mayUnbox_42
      · refine lv_iload_n hx hb dX0_mayUnbox_26 rfl (lv_at hl 0 rfl) ?_
        refine lv_bipush (v := 8) hx hb dX0_mayUnbox_27 (by decide) ?_
        refine lv_isub hx hb dX0_mayUnbox_29 ?_
        refine lv_iload_n hx hb dX0_mayUnbox_30 rfl (lv_at hl 1 rfl) ?_
        refine kc_S [.int (x0 - (8 : Int32)), .int x1] [] ⟨hx, hb, hml, hown, hts⟩ (cX_mayWiden l (x0 - (8 : Int32)) x1) (cwS 2 hts gX0_mayUnbox_X0_mayWiden rfl rfl rfl (by decide +kernel) ⟨(Nat.le_of_ble_eq_true rfl), (Nat.le_of_ble_eq_true rfl)⟩) rfl hl.1 rfl (Nat.le_of_ble_eq_true rfl) dX0_mayUnbox_31 ⟨Nat.zero_le _, Nat.zero_le _⟩ ?_
        refine lv_if_eq (tgt := 41) hx hb dX0_mayUnbox_34 (by decide) (fun c34 => ?_) (fun c34 => ?_)
        · refine lv_iconst (v := 0) hx hb dX0_mayUnbox_41 (by decide) ?_
          exact W.zret hx hb hr rfl (fun t ht hW => ⟨by rw [fX_mayUnbox, if_neg c3, if_neg c11, if_neg c23, if_pos c34] <;> rfl, ht⟩) (fun _ h => by cases h) dX0_mayUnbox_42
        · refine lv_iconst (v := 1) hx hb dX0_mayUnbox_37 (by decide) ?_
          refine lv_goto (tgt := 42) hx hb dX0_mayUnbox_38 (by decide) ?_
          exact W.zret hx hb hr rfl (fun t ht hW => ⟨by rw [fX_mayUnbox, if_neg c3, if_neg c11, if_neg c23, if_neg c34] <;> rfl, ht⟩) (fun _ h => by cases h) dX0_mayUnbox_42
    · refine lv_iload_n hx hb dX0_mayUnbox_14 rfl (lv_at hl 1 rfl) ?_
      refine kc_S [.int x1] [] ⟨hx, hb, hml, hown, hts⟩ (cX_isOfNumbers l x1) (cwS 1 hts gX0_mayUnbox_X0_isOfNumbers rfl rfl rfl (by decide +kernel) ⟨(Nat.le_of_ble_eq_true rfl), (Nat.le_of_ble_eq_true rfl)⟩) rfl hl.1 rfl (Nat.le_of_ble_eq_true rfl) dX0_mayUnbox_15 ⟨Nat.zero_le _, Nat.zero_le _⟩ ?_
      exact W.zret hx hb hr (bI_nar (fX_isOfNumbers x1)) (fun t ht hW => ⟨by rw [fX_mayUnbox, if_neg c3, if_pos c11] <;> rfl, ht⟩) (fun _ h => by cases h) dX0_mayUnbox_18
  · refine lv_iconst (v := 1) hx hb dX0_mayUnbox_6 (by decide) ?_
    exact W.zret hx hb hr rfl (fun t ht hW => ⟨by rw [fX_mayUnbox, if_pos c3] <;> rfl, ht⟩) (fun _ h => by cases h) dX0_mayUnbox_7
def fX_lowest  (x0 : Int32) (x1 : Int64) : Int64 := if x0 = (1 : Int32) then x1 &&& (1 : Int64) else if x0 = (2 : Int32) then x1.toInt32.toInt8.toInt32.toInt64 else if x0 = (3 : Int32) then x1.toInt32.toInt16.toInt32.toInt64 else if x0 = (4 : Int32) then ((x1.toInt32.toUInt32 % 65536).toInt32).toInt64 else if x0 = (5 : Int32) then x1.toInt32.toInt64 else x1
set_option maxHeartbeats 4000000 in
set_option maxRecDepth 100000 in
theorem cX_lowest (l : Launch) (x0 : Int32) (x1 : Int64) : Met l yX0_lowest wsX0_lowest ({ frames := 0, cells := 0, slots := 0, locals := 0 }) (kPs [.int x0, .long x1]) (k2_QcV (.long (fX_lowest x0 x1))) 0 0 kNo := by
  refine Met.ofW (cc := cX0_lowest) (maxL := 3) (ret := (some .long)) (by decide) rfl ?_
  intro p e s m args below meth c s₁ B hml hv
  obtain rfl : args = ([.int x0, .long x1] : List Value).toArray := hv
  have hx := B.exec
  have hb := B.bytes
  have hr := B.returns
  have hts := atoms_spec (ws := wsX0_lowest) B.pre
  have hown : s.vm.findClass RX0 = some m.cls := findClass_of_methodNamed B.named
  have hlocks := B.notSynchronized
  have hl := lv_entry ([.int x0, .long x1]) (n := 3) (Nat.le_of_ble_eq_true rfl)
  rw [lg_entry_eq]
  generalize (lg_sl ([.int x0, .long x1]) ++ List.replicate (3 - (lg_sl ([.int x0, .long x1])).length) Slot.unset).toArray = ls at hl ⊢
  have hl : lv_has ls 3 [(0, .int x0), (1, .long x1)] := hl
  refine lv_iload_n hx hb dX0_lowest_0 rfl (lv_at hl 0 rfl) ?_
  by_cases c1_1 : x0 = (1 : Int32)
  · refine lv_tableIn (tgt := 36) hx hb dX0_lowest_1 (by rw [c1_1]; decide) (by rw [c1_1]; decide) (off := 35) (by rw [c1_1]; decide) (by decide) ?_
    refine lv_lload_n hx hb dX0_lowest_36 rfl (lv_at hl 1 rfl) ?_
    refine lv_lconst (v := 1) hx hb dX0_lowest_37 (by decide) ?_
    refine lv_land hx hb dX0_lowest_38 ?_
    exact W.lret hx hb hr (fun t ht hW => ⟨by rw [fX_lowest, if_pos c1_1] <;> rfl, ht⟩) (fun _ h => by cases h) dX0_lowest_39
  by_cases c1_2 : x0 = (2 : Int32)
  · refine lv_tableIn (tgt := 40) hx hb dX0_lowest_1 (by rw [c1_2]; decide) (by rw [c1_2]; decide) (off := 39) (by rw [c1_2]; decide) (by decide) ?_
    refine lv_lload_n hx hb dX0_lowest_40 rfl (lv_at hl 1 rfl) ?_
    refine lv_l2i hx hb dX0_lowest_41 rfl ?_
    refine lv_i2b hx hb dX0_lowest_42 rfl ?_
    refine lv_i2l hx hb dX0_lowest_43 rfl ?_
    exact W.lret hx hb hr (fun t ht hW => ⟨by rw [fX_lowest, if_neg c1_1, if_pos c1_2] <;> rfl, ht⟩) (fun _ h => by cases h) dX0_lowest_44
  by_cases c1_3 : x0 = (3 : Int32)
  · refine lv_tableIn (tgt := 45) hx hb dX0_lowest_1 (by rw [c1_3]; decide) (by rw [c1_3]; decide) (off := 44) (by rw [c1_3]; decide) (by decide) ?_
    refine lv_lload_n hx hb dX0_lowest_45 rfl (lv_at hl 1 rfl) ?_
    refine lv_l2i hx hb dX0_lowest_46 rfl ?_
    refine lv_i2s hx hb dX0_lowest_47 rfl ?_
    refine lv_i2l hx hb dX0_lowest_48 rfl ?_
    exact W.lret hx hb hr (fun t ht hW => ⟨by rw [fX_lowest, if_neg c1_1, if_neg c1_2, if_pos c1_3] <;> rfl, ht⟩) (fun _ h => by cases h) dX0_lowest_49
  by_cases c1_4 : x0 = (4 : Int32)
  · refine lv_tableIn (tgt := 50) hx hb dX0_lowest_1 (by rw [c1_4]; decide) (by rw [c1_4]; decide) (off := 49) (by rw [c1_4]; decide) (by decide) ?_
    refine lv_lload_n hx hb dX0_lowest_50 rfl (lv_at hl 1 rfl) ?_
    refine lv_l2i hx hb dX0_lowest_51 rfl ?_
    refine lv_i2c hx hb dX0_lowest_52 rfl ?_
    refine lv_i2l hx hb dX0_lowest_53 rfl ?_
    exact W.lret hx hb hr (fun t ht hW => ⟨by rw [fX_lowest, if_neg c1_1, if_neg c1_2, if_neg c1_3, if_pos c1_4] <;> rfl, ht⟩) (fun _ h => by cases h) dX0_lowest_54
  by_cases c1_5 : x0 = (5 : Int32)
  · refine lv_tableIn (tgt := 55) hx hb dX0_lowest_1 (by rw [c1_5]; decide) (by rw [c1_5]; decide) (off := 54) (by rw [c1_5]; decide) (by decide) ?_
    refine lv_lload_n hx hb dX0_lowest_55 rfl (lv_at hl 1 rfl) ?_
    refine lv_l2i hx hb dX0_lowest_56 rfl ?_
    refine lv_i2l hx hb dX0_lowest_57 rfl ?_
    exact W.lret hx hb hr (fun t ht hW => ⟨by rw [fX_lowest, if_neg c1_1, if_neg c1_2, if_neg c1_3, if_neg c1_4, if_pos c1_5] <;> rfl, ht⟩) (fun _ h => by cases h) dX0_lowest_58
  refine lv_tableOut (tgt := 59) hx hb dX0_lowest_1 (by have h1 := lv_neT c1_1 (a := 1) (by decide); have h2 := lv_neT c1_2 (a := 2) (by decide); have h3 := lv_neT c1_3 (a := 3) (by decide); have h4 := lv_neT c1_4 (a := 4) (by decide); have h5 := lv_neT c1_5 (a := 5) (by decide); omega) (by decide) ?_
  refine lv_lload_n hx hb dX0_lowest_59 rfl (lv_at hl 1 rfl) ?_
  exact W.lret hx hb hr (fun t ht hW => ⟨by rw [fX_lowest, if_neg c1_1, if_neg c1_2, if_neg c1_3, if_neg c1_4, if_neg c1_5] <;> rfl, ht⟩) (fun _ h => by cases h) dX0_lowest_60
def fX_fits  (x0 : Int32) (x1 : Int64) : Bool := if (lg_cmp (fX_lowest x0 x1) x1) = 0 then true else false
set_option maxHeartbeats 4000000 in
set_option maxRecDepth 100000 in
theorem cX_fits (l : Launch) (x0 : Int32) (x1 : Int64) : Met l yX0_fits wsX0_fits ({ frames := 1, cells := 0, slots := 0, locals := 22 }) (kPs [.int x0, .long x1]) (k2_QcV (.int (bI (fX_fits x0 x1)))) 0 0 kNo := by
  refine Met.ofW (cc := cX0_fits) (maxL := 3) (ret := (some .boolean)) (by decide) rfl ?_
  intro p e s m args below meth c s₁ B hml hv
  obtain rfl : args = ([.int x0, .long x1] : List Value).toArray := hv
  have hx := B.exec
  have hb := B.bytes
  have hr := B.returns
  have hts := atoms_spec (ws := wsX0_fits) B.pre
  have hown : s.vm.findClass RX0 = some m.cls := findClass_of_methodNamed B.named
  have hlocks := B.notSynchronized
  have hl := lv_entry ([.int x0, .long x1]) (n := 3) (Nat.le_of_ble_eq_true rfl)
  rw [lg_entry_eq]
  generalize (lg_sl ([.int x0, .long x1]) ++ List.replicate (3 - (lg_sl ([.int x0, .long x1])).length) Slot.unset).toArray = ls at hl ⊢
  have hl : lv_has ls 3 [(0, .int x0), (1, .long x1)] := hl
  refine lv_iload_n hx hb dX0_fits_0 rfl (lv_at hl 0 rfl) ?_
  refine lv_lload_n hx hb dX0_fits_1 rfl (lv_at hl 1 rfl) ?_
  refine kc_S [.int x0, .long x1] [] ⟨hx, hb, hml, hown, hts⟩ (cX_lowest l x0 x1) (cwS 2 hts gX0_fits_X0_lowest rfl rfl rfl (by decide +kernel) ⟨(Nat.le_of_ble_eq_true rfl), (Nat.le_of_ble_eq_true rfl)⟩) rfl hl.1 rfl (Nat.le_of_ble_eq_true rfl) dX0_fits_2 ⟨Nat.zero_le _, Nat.zero_le _⟩ ?_
  refine lv_lload_n hx hb dX0_fits_5 rfl (lv_at hl 1 rfl) ?_
  refine W.lcmp hx hb dX0_fits_6 ?_
  refine lv_if_ne (tgt := 14) hx hb dX0_fits_7 (by decide) (fun c7 => ?_) (fun c7 => ?_)
  · refine lv_iconst (v := 0) hx hb dX0_fits_14 (by decide) ?_
    exact W.zret hx hb hr rfl (fun t ht hW => ⟨by rw [fX_fits, if_neg c7] <;> rfl, ht⟩) (fun _ h => by cases h) dX0_fits_15
  · refine lv_iconst (v := 1) hx hb dX0_fits_10 (by decide) ?_
    refine lv_goto (tgt := 15) hx hb dX0_fits_11 (by decide) ?_
    exact W.zret hx hb hr rfl (fun t ht hW => ⟨by rw [fX_fits, if_pos c7] <;> rfl, ht⟩) (fun _ h => by cases h) dX0_fits_15
def fX_firstAbove  (x0 : Int32) : Int32 := if x0 ≤ (7 : Int32) then if (bI (fX_isBox x0)) = 0 then (1 : Int32) <<< (x0 &&& 31) else if (bI (fX_isOfNumbers (x0 - (8 : Int32)))) = 0 then (1 : Int32) <<< (x0 &&& 31) else ((1 : Int32) <<< (x0 &&& 31)) ||| (256 : Int32) else if (bI (fX_isBox x0)) = 0 then ((1 : Int32) <<< (x0 &&& 31)) ||| (128 : Int32) else if (bI (fX_isOfNumbers (x0 - (8 : Int32)))) = 0 then ((1 : Int32) <<< (x0 &&& 31)) ||| (128 : Int32) else (((1 : Int32) <<< (x0 &&& 31)) ||| (128 : Int32)) ||| (256 : Int32)
set_option maxHeartbeats 4000000 in
set_option maxRecDepth 100000 in
theorem cX_firstAbove (l : Launch) (x0 : Int32) : Met l yX0_firstAbove wsX0_firstAbove ({ frames := 1, cells := 0, slots := 0, locals := 20 }) (kPs [.int x0]) (k2_QcV (.int (fX_firstAbove x0))) 0 0 kNo := by
  refine Met.ofW (cc := cX0_firstAbove) (maxL := 2) (ret := (some .int)) (by decide) rfl ?_
  intro p e s m args below meth c s₁ B hml hv
  obtain rfl : args = ([.int x0] : List Value).toArray := hv
  have hx := B.exec
  have hb := B.bytes
  have hr := B.returns
  have hts := atoms_spec (ws := wsX0_firstAbove) B.pre
  have hown : s.vm.findClass RX0 = some m.cls := findClass_of_methodNamed B.named
  have hlocks := B.notSynchronized
  have hl := lv_entry ([.int x0]) (n := 2) (Nat.le_of_ble_eq_true rfl)
  rw [lg_entry_eq]
  generalize (lg_sl ([.int x0]) ++ List.replicate (2 - (lg_sl ([.int x0])).length) Slot.unset).toArray = ls at hl ⊢
  have hl : lv_has ls 2 [(0, .int x0)] := hl
  refine lv_iconst (v := 1) hx hb dX0_firstAbove_0 (by decide) ?_
  refine lv_iload_n hx hb dX0_firstAbove_1 rfl (lv_at hl 0 rfl) ?_
  refine lv_ishl hx hb dX0_firstAbove_2 ?_
  refine lv_istore_n (lv' := [(1, .int ((1 : Int32) <<< (x0 &&& 31))), (0, .int x0)]) hx hb dX0_firstAbove_3 rfl hl (by decide) rfl (fun ls hl => ?_)
  refine lv_iload_n hx hb dX0_firstAbove_4 rfl (lv_at hl 1 rfl) ?_
  refine lv_bipush (v := 7) hx hb dX0_firstAbove_5 (by decide) ?_
  refine lv_icmp_le (tgt := 16) hx hb dX0_firstAbove_7 (by decide) (fun c7 => ?_) (fun c7 => ?_)
  · refine lv_iload_n hx hb dX0_firstAbove_16 rfl (lv_at hl 1 rfl) ?_
    refine kc_S [.int x0] [] ⟨hx, hb, hml, hown, hts⟩ (cX_isBox l x0) (cwS 1 hts gX0_firstAbove_X0_isBox rfl rfl rfl (by decide +kernel) ⟨(Nat.le_of_ble_eq_true rfl), (Nat.le_of_ble_eq_true rfl)⟩) rfl hl.1 rfl (Nat.le_of_ble_eq_true rfl) dX0_firstAbove_17 ⟨Nat.zero_le _, Nat.zero_le _⟩ ?_
    refine lv_if_eq (tgt := 39) hx hb dX0_firstAbove_20 (by decide) (fun c20 => ?_) (fun c20 => ?_)
    · refine lv_iload_n hx hb dX0_firstAbove_39 rfl (lv_at hl 0 rfl) ?_
      exact W.iret hx hb hr (fun t ht hW => ⟨by rw [fX_firstAbove, if_pos c7, if_pos c20] <;> rfl, ht⟩) (fun _ h => by cases h) dX0_firstAbove_40
    · refine lv_iload_n hx hb dX0_firstAbove_23 rfl (lv_at hl 1 rfl) ?_
      refine lv_bipush (v := 8) hx hb dX0_firstAbove_24 (by decide) ?_
      refine lv_isub hx hb dX0_firstAbove_26 ?_
      refine kc_S [.int (x0 - (8 : Int32))] [] ⟨hx, hb, hml, hown, hts⟩ (cX_isOfNumbers l (x0 - (8 : Int32))) (cwS 1 hts gX0_firstAbove_X0_isOfNumbers rfl rfl rfl (by decide +kernel) ⟨(Nat.le_of_ble_eq_true rfl), (Nat.le_of_ble_eq_true rfl)⟩) rfl hl.1 rfl (Nat.le_of_ble_eq_true rfl) dX0_firstAbove_27 ⟨Nat.zero_le _, Nat.zero_le _⟩ ?_
      refine lv_if_eq (tgt := 39) hx hb dX0_firstAbove_30 (by decide) (fun c30 => ?_) (fun c30 => ?_)
      · refine lv_iload_n hx hb dX0_firstAbove_39 rfl (lv_at hl 0 rfl) ?_
        exact W.iret hx hb hr (fun t ht hW => ⟨by rw [fX_firstAbove, if_pos c7, if_neg c20, if_pos c30] <;> rfl, ht⟩) (fun _ h => by cases h) dX0_firstAbove_40
      · refine lv_iload_n hx hb dX0_firstAbove_33 rfl (lv_at hl 0 rfl) ?_
        refine lv_sipush (v := 256) hx hb dX0_firstAbove_34 (by decide) ?_
        refine lv_ior hx hb dX0_firstAbove_37 ?_
        refine lv_istore_n (lv' := [(1, .int (((1 : Int32) <<< (x0 &&& 31)) ||| (256 : Int32))), (0, .int x0)]) hx hb dX0_firstAbove_38 rfl hl (by decide) rfl (fun ls hl => ?_)
        refine lv_iload_n hx hb dX0_firstAbove_39 rfl (lv_at hl 0 rfl) ?_
        exact W.iret hx hb hr (fun t ht hW => ⟨by rw [fX_firstAbove, if_pos c7, if_neg c20, if_neg c30] <;> rfl, ht⟩) (fun _ h => by cases h) dX0_firstAbove_40
  · refine lv_iload_n hx hb dX0_firstAbove_10 rfl (lv_at hl 0 rfl) ?_
    refine lv_sipush (v := 128) hx hb dX0_firstAbove_11 (by decide) ?_
    refine lv_ior hx hb dX0_firstAbove_14 ?_
    refine lv_istore_n (lv' := [(1, .int (((1 : Int32) <<< (x0 &&& 31)) ||| (128 : Int32))), (0, .int x0)]) hx hb dX0_firstAbove_15 rfl hl (by decide) rfl (fun ls hl => ?_)
    refine lv_iload_n hx hb dX0_firstAbove_16 rfl (lv_at hl 1 rfl) ?_
    refine kc_S [.int x0] [] ⟨hx, hb, hml, hown, hts⟩ (cX_isBox l x0) (cwS 1 hts gX0_firstAbove_X0_isBox rfl rfl rfl (by decide +kernel) ⟨(Nat.le_of_ble_eq_true rfl), (Nat.le_of_ble_eq_true rfl)⟩) rfl hl.1 rfl (Nat.le_of_ble_eq_true rfl) dX0_firstAbove_17 ⟨Nat.zero_le _, Nat.zero_le _⟩ ?_
    refine lv_if_eq (tgt := 39) hx hb dX0_firstAbove_20 (by decide) (fun c20 => ?_) (fun c20 => ?_)
    · refine lv_iload_n hx hb dX0_firstAbove_39 rfl (lv_at hl 0 rfl) ?_
      exact W.iret hx hb hr (fun t ht hW => ⟨by rw [fX_firstAbove, if_neg c7, if_pos c20] <;> rfl, ht⟩) (fun _ h => by cases h) dX0_firstAbove_40
    · refine lv_iload_n hx hb dX0_firstAbove_23 rfl (lv_at hl 1 rfl) ?_
      refine lv_bipush (v := 8) hx hb dX0_firstAbove_24 (by decide) ?_
      refine lv_isub hx hb dX0_firstAbove_26 ?_
      refine kc_S [.int (x0 - (8 : Int32))] [] ⟨hx, hb, hml, hown, hts⟩ (cX_isOfNumbers l (x0 - (8 : Int32))) (cwS 1 hts gX0_firstAbove_X0_isOfNumbers rfl rfl rfl (by decide +kernel) ⟨(Nat.le_of_ble_eq_true rfl), (Nat.le_of_ble_eq_true rfl)⟩) rfl hl.1 rfl (Nat.le_of_ble_eq_true rfl) dX0_firstAbove_27 ⟨Nat.zero_le _, Nat.zero_le _⟩ ?_
      refine lv_if_eq (tgt := 39) hx hb dX0_firstAbove_30 (by decide) (fun c30 => ?_) (fun c30 => ?_)
      · refine lv_iload_n hx hb dX0_firstAbove_39 rfl (lv_at hl 0 rfl) ?_
        exact W.iret hx hb hr (fun t ht hW => ⟨by rw [fX_firstAbove, if_neg c7, if_neg c20, if_pos c30] <;> rfl, ht⟩) (fun _ h => by cases h) dX0_firstAbove_40
      · refine lv_iload_n hx hb dX0_firstAbove_33 rfl (lv_at hl 0 rfl) ?_
        refine lv_sipush (v := 256) hx hb dX0_firstAbove_34 (by decide) ?_
        refine lv_ior hx hb dX0_firstAbove_37 ?_
        refine lv_istore_n (lv' := [(1, .int ((((1 : Int32) <<< (x0 &&& 31)) ||| (128 : Int32)) ||| (256 : Int32))), (0, .int x0)]) hx hb dX0_firstAbove_38 rfl hl (by decide) rfl (fun ls hl => ?_)
        refine lv_iload_n hx hb dX0_firstAbove_39 rfl (lv_at hl 0 rfl) ?_
        exact W.iret hx hb hr (fun t ht hW => ⟨by rw [fX_firstAbove, if_neg c7, if_neg c20, if_neg c30] <;> rfl, ht⟩) (fun _ h => by cases h) dX0_firstAbove_40
def fX_resultOf  (x0 : Int64) : Int32 := (x0 &&& (31 : Int64)).toInt32
set_option maxHeartbeats 4000000 in
set_option maxRecDepth 100000 in
theorem cX_resultOf (l : Launch) (x0 : Int64) : Met l yX0_resultOf wsX0_resultOf ({ frames := 0, cells := 0, slots := 0, locals := 0 }) (kPs [.long x0]) (k2_QcV (.int (fX_resultOf x0))) 0 0 kNo := by
  refine Met.ofW (cc := cX0_resultOf) (maxL := 2) (ret := (some .int)) (by decide) rfl ?_
  intro p e s m args below meth c s₁ B hml hv
  obtain rfl : args = ([.long x0] : List Value).toArray := hv
  have hx := B.exec
  have hb := B.bytes
  have hr := B.returns
  have hts := atoms_spec (ws := wsX0_resultOf) B.pre
  have hown : s.vm.findClass RX0 = some m.cls := findClass_of_methodNamed B.named
  have hlocks := B.notSynchronized
  have hl := lv_entry ([.long x0]) (n := 2) (Nat.le_of_ble_eq_true rfl)
  rw [lg_entry_eq]
  generalize (lg_sl ([.long x0]) ++ List.replicate (2 - (lg_sl ([.long x0])).length) Slot.unset).toArray = ls at hl ⊢
  have hl : lv_has ls 2 [(0, .long x0)] := hl
  refine lv_lload_n hx hb dX0_resultOf_0 rfl (lv_at hl 0 rfl) ?_
  refine lv_ldc2 (v := 31) hx hb hown (hts (.constantLong RX0 130 31) (by decide +kernel)) dX0_resultOf_1 ?_
  refine lv_land hx hb dX0_resultOf_4 ?_
  refine lv_l2i hx hb dX0_resultOf_5 rfl ?_
  exact W.iret hx hb hr (fun t ht hW => ⟨by rw [fX_resultOf] <;> rfl, ht⟩) (fun _ h => by cases h) dX0_resultOf_6
def fX_placesOf  (x0 : Int64) : Int32 := (((x0.toUInt64 >>> ((5 : Int32).toInt64.toUInt64 &&& Int64.toUInt64 63)).toInt64) &&& (15 : Int64)).toInt32
set_option maxHeartbeats 4000000 in
set_option maxRecDepth 100000 in
theorem cX_placesOf (l : Launch) (x0 : Int64) : Met l yX0_placesOf wsX0_placesOf ({ frames := 0, cells := 0, slots := 0, locals := 0 }) (kPs [.long x0]) (k2_QcV (.int (fX_placesOf x0))) 0 0 kNo := by
  refine Met.ofW (cc := cX0_placesOf) (maxL := 2) (ret := (some .int)) (by decide) rfl ?_
  intro p e s m args below meth c s₁ B hml hv
  obtain rfl : args = ([.long x0] : List Value).toArray := hv
  have hx := B.exec
  have hb := B.bytes
  have hr := B.returns
  have hts := atoms_spec (ws := wsX0_placesOf) B.pre
  have hown : s.vm.findClass RX0 = some m.cls := findClass_of_methodNamed B.named
  have hlocks := B.notSynchronized
  have hl := lv_entry ([.long x0]) (n := 2) (Nat.le_of_ble_eq_true rfl)
  rw [lg_entry_eq]
  generalize (lg_sl ([.long x0]) ++ List.replicate (2 - (lg_sl ([.long x0])).length) Slot.unset).toArray = ls at hl ⊢
  have hl : lv_has ls 2 [(0, .long x0)] := hl
  refine lv_lload_n hx hb dX0_placesOf_0 rfl (lv_at hl 0 rfl) ?_
  refine lv_iconst (v := 5) hx hb dX0_placesOf_1 (by decide) ?_
  refine lv_lushr hx hb dX0_placesOf_2 rfl ?_
  refine lv_ldc2 (v := 15) hx hb hown (hts (.constantLong RX0 132 15) (by decide +kernel)) dX0_placesOf_3 ?_
  refine lv_land hx hb dX0_placesOf_6 ?_
  refine lv_l2i hx hb dX0_placesOf_7 rfl ?_
  exact W.iret hx hb hr (fun t ht hW => ⟨by rw [fX_placesOf] <;> rfl, ht⟩) (fun _ h => by cases h) dX0_placesOf_8
def fX_placeBit  (x0 : Int32) : Int32 := (9 : Int32) + (x0 * (5 : Int32))
set_option maxHeartbeats 4000000 in
set_option maxRecDepth 100000 in
theorem cX_placeBit (l : Launch) (x0 : Int32) : Met l yX0_placeBit wsX0_placeBit ({ frames := 0, cells := 0, slots := 0, locals := 0 }) (kPs [.int x0]) (k2_QcV (.int (fX_placeBit x0))) 0 0 kNo := by
  refine Met.ofW (cc := cX0_placeBit) (maxL := 1) (ret := (some .int)) (by decide) rfl ?_
  intro p e s m args below meth c s₁ B hml hv
  obtain rfl : args = ([.int x0] : List Value).toArray := hv
  have hx := B.exec
  have hb := B.bytes
  have hr := B.returns
  have hts := atoms_spec (ws := wsX0_placeBit) B.pre
  have hown : s.vm.findClass RX0 = some m.cls := findClass_of_methodNamed B.named
  have hlocks := B.notSynchronized
  have hl := lv_entry ([.int x0]) (n := 1) (Nat.le_of_ble_eq_true rfl)
  rw [lg_entry_eq]
  generalize (lg_sl ([.int x0]) ++ List.replicate (1 - (lg_sl ([.int x0])).length) Slot.unset).toArray = ls at hl ⊢
  have hl : lv_has ls 1 [(0, .int x0)] := hl
  refine lv_bipush (v := 9) hx hb dX0_placeBit_0 (by decide) ?_
  refine lv_iload_n hx hb dX0_placeBit_2 rfl (lv_at hl 0 rfl) ?_
  refine lv_iconst (v := 5) hx hb dX0_placeBit_3 (by decide) ?_
  refine lv_imul hx hb dX0_placeBit_4 ?_
  refine lv_iadd hx hb dX0_placeBit_5 ?_
  exact W.iret hx hb hr (fun t ht hW => ⟨by rw [fX_placeBit] <;> rfl, ht⟩) (fun _ h => by cases h) dX0_placeBit_6
def fX_placeOf  (x0 : Int64) (x2 : Int32) : Int32 := (((x0.toUInt64 >>> ((fX_placeBit x2).toInt64.toUInt64 &&& Int64.toUInt64 63)).toInt64) &&& (31 : Int64)).toInt32
set_option maxHeartbeats 4000000 in
set_option maxRecDepth 100000 in
theorem cX_placeOf (l : Launch) (x0 : Int64) (x2 : Int32) : Met l yX0_placeOf wsX0_placeOf ({ frames := 1, cells := 0, slots := 0, locals := 20 }) (kPs [.long x0, .int x2]) (k2_QcV (.int (fX_placeOf x0 x2))) 0 0 kNo := by
  refine Met.ofW (cc := cX0_placeOf) (maxL := 3) (ret := (some .int)) (by decide) rfl ?_
  intro p e s m args below meth c s₁ B hml hv
  obtain rfl : args = ([.long x0, .int x2] : List Value).toArray := hv
  have hx := B.exec
  have hb := B.bytes
  have hr := B.returns
  have hts := atoms_spec (ws := wsX0_placeOf) B.pre
  have hown : s.vm.findClass RX0 = some m.cls := findClass_of_methodNamed B.named
  have hlocks := B.notSynchronized
  have hl := lv_entry ([.long x0, .int x2]) (n := 3) (Nat.le_of_ble_eq_true rfl)
  rw [lg_entry_eq]
  generalize (lg_sl ([.long x0, .int x2]) ++ List.replicate (3 - (lg_sl ([.long x0, .int x2])).length) Slot.unset).toArray = ls at hl ⊢
  have hl : lv_has ls 3 [(0, .long x0), (2, .int x2)] := hl
  refine lv_lload_n hx hb dX0_placeOf_0 rfl (lv_at hl 0 rfl) ?_
  refine lv_iload_n hx hb dX0_placeOf_1 rfl (lv_at hl 1 rfl) ?_
  refine kc_S [.int x2] [.long x0] ⟨hx, hb, hml, hown, hts⟩ (cX_placeBit l x2) (cwS 1 hts gX0_placeOf_X0_placeBit rfl rfl rfl (by decide +kernel) ⟨(Nat.le_of_ble_eq_true rfl), (Nat.le_of_ble_eq_true rfl)⟩) rfl hl.1 rfl (Nat.le_of_ble_eq_true rfl) dX0_placeOf_2 ⟨Nat.zero_le _, Nat.zero_le _⟩ ?_
  refine lv_lushr hx hb dX0_placeOf_5 rfl ?_
  refine lv_ldc2 (v := 31) hx hb hown (hts (.constantLong RX0 130 31) (by decide +kernel)) dX0_placeOf_6 ?_
  refine lv_land hx hb dX0_placeOf_9 ?_
  refine lv_l2i hx hb dX0_placeOf_10 rfl ?_
  exact W.iret hx hb hr (fun t ht hW => ⟨by rw [fX_placeOf] <;> rfl, ht⟩) (fun _ h => by cases h) dX0_placeOf_11
def fX_withPlace  (x0 : Int64) (x2 : Int32) : Int64 := (x0 + (32 : Int64)) ||| (x2.toInt64 <<< ((fX_placeBit (fX_placesOf x0)).toInt64 &&& 63))
set_option maxHeartbeats 4000000 in
set_option maxRecDepth 100000 in
theorem cX_withPlace (l : Launch) (x0 : Int64) (x2 : Int32) : Met l yX0_withPlace wsX0_withPlace ({ frames := 1, cells := 0, slots := 0, locals := 21 }) (kPs [.long x0, .int x2]) (k2_QcV (.long (fX_withPlace x0 x2))) 0 0 kNo := by
  refine Met.ofW (cc := cX0_withPlace) (maxL := 3) (ret := (some .long)) (by decide) rfl ?_
  intro p e s m args below meth c s₁ B hml hv
  obtain rfl : args = ([.long x0, .int x2] : List Value).toArray := hv
  have hx := B.exec
  have hb := B.bytes
  have hr := B.returns
  have hts := atoms_spec (ws := wsX0_withPlace) B.pre
  have hown : s.vm.findClass RX0 = some m.cls := findClass_of_methodNamed B.named
  have hlocks := B.notSynchronized
  have hl := lv_entry ([.long x0, .int x2]) (n := 3) (Nat.le_of_ble_eq_true rfl)
  rw [lg_entry_eq]
  generalize (lg_sl ([.long x0, .int x2]) ++ List.replicate (3 - (lg_sl ([.long x0, .int x2])).length) Slot.unset).toArray = ls at hl ⊢
  have hl : lv_has ls 3 [(0, .long x0), (2, .int x2)] := hl
  refine lv_lload_n hx hb dX0_withPlace_0 rfl (lv_at hl 0 rfl) ?_
  refine lv_ldc2 (v := 32) hx hb hown (hts (.constantLong RX0 137 32) (by decide +kernel)) dX0_withPlace_1 ?_
  refine lv_ladd hx hb dX0_withPlace_4 ?_
  refine lv_iload_n hx hb dX0_withPlace_5 rfl (lv_at hl 1 rfl) ?_
  refine lv_i2l hx hb dX0_withPlace_6 rfl ?_
  refine lv_lload_n hx hb dX0_withPlace_7 rfl (lv_at hl 0 rfl) ?_
  refine kc_S [.long x0] [.long x2.toInt64, .long (x0 + (32 : Int64))] ⟨hx, hb, hml, hown, hts⟩ (cX_placesOf l x0) (cwS 1 hts gX0_withPlace_X0_placesOf rfl rfl rfl (by decide +kernel) ⟨(Nat.le_of_ble_eq_true rfl), (Nat.le_of_ble_eq_true rfl)⟩) rfl hl.1 rfl (Nat.le_of_ble_eq_true rfl) dX0_withPlace_8 ⟨Nat.zero_le _, Nat.zero_le _⟩ ?_
  refine kc_S [.int (fX_placesOf x0)] [.long x2.toInt64, .long (x0 + (32 : Int64))] ⟨hx, hb, hml, hown, hts⟩ (cX_placeBit l (fX_placesOf x0)) (cwS 1 hts gX0_withPlace_X0_placeBit rfl rfl rfl (by decide +kernel) ⟨(Nat.le_of_ble_eq_true rfl), (Nat.le_of_ble_eq_true rfl)⟩) rfl hl.1 rfl (Nat.le_of_ble_eq_true rfl) dX0_withPlace_11 ⟨Nat.zero_le _, Nat.zero_le _⟩ ?_
  refine lv_lshl hx hb dX0_withPlace_14 rfl ?_
  refine lv_lor hx hb dX0_withPlace_15 ?_
  exact W.lret hx hb hr (fun t ht hW => ⟨by rw [fX_withPlace] <;> rfl, ht⟩) (fun _ h => by cases h) dX0_withPlace_16
def fX_isKind (nk : Nat) (x1 : Int32) : Bool := if x1 < 0 then false else if (nI nk) ≤ x1 then false else true
set_option maxHeartbeats 4000000 in
set_option maxRecDepth 100000 in
theorem cX_isKind (l : Launch) (dC : Nat → ClassId) (dI : Nat → Nat → Nat) (h0 qa qr qt : Nat) (cI cJ : ClassId) (av : Nat → Int32) (nk : Nat) (rv : Nat → Int32) (nr : Nat) (tv : Nat → Int64) (nt : Nat) (pk : Int32) (pn : Int64) (x1 : Int32) : Met l yX0_isKind wsX0_isKind ({ frames := 0, cells := 0, slots := 0, locals := 0 }) (kPr (dC, dI) vwCl [(cI, .int), (cJ, .long)] (xW h0 qa qr qt cI cJ av nk rv nr tv nt pk pn) [.ref h0, .int x1]) (k2_QcV (.int (bI (fX_isKind nk x1)))) 0 0 kNo := by
  refine Met.ofW (cc := cX0_isKind) (maxL := 2) (ret := (some .boolean)) (by decide) rfl ?_
  intro p e s m args below meth c s₁ B hml hv
  obtain ⟨rfl, hP, hK⟩ := hv
  have hx := B.exec
  have hb := B.bytes
  have hr := B.returns
  have hts := atoms_spec (ws := wsX0_isKind) B.pre
  have hown : s.vm.findClass RX0 = some m.cls := findClass_of_methodNamed B.named
  have hlocks := B.notSynchronized
  have hin : ∀ w ∈ u_ws RX0 TX0 8, w ∈ wsX0_isKind := by decide +kernel
  have hl := lv_entry ([.ref h0, .int x1]) (n := 2) (Nat.le_of_ble_eq_true rfl)
  rw [lg_entry_eq]
  generalize (lg_sl ([.ref h0, .int x1]) ++ List.replicate (2 - (lg_sl ([.ref h0, .int x1])).length) Slot.unset).toArray = ls at hl ⊢
  have hl : lv_has ls 2 [(0, .ref h0), (1, .int x1)] := hl
  refine lv_iload_n hx hb dX0_isKind_0 rfl (lv_at hl 1 rfl) ?_
  refine lv_if_lt (tgt := 16) hx hb dX0_isKind_1 (by decide) (fun c1 => ?_) (fun c1 => ?_)
  · refine lv_iconst (v := 0) hx hb dX0_isKind_16 (by decide) ?_
    exact W.zret hx hb hr rfl (fun t ht hW => ⟨by rw [fX_isKind, if_pos c1] <;> rfl, ht⟩) (fun _ h => by cases h) dX0_isKind_17
  · refine lv_iload_n hx hb dX0_isKind_4 rfl (lv_at hl 1 rfl) ?_
    refine lv_aload_n hx hb dX0_isKind_5 rfl (lv_at hl 0 rfl) ?_
    refine va_get (D := (dC, dI)) (ci := 0) (v := .int (nI nk)) (C := RX0) (T := TX0) (N := 8) hx hb hts hin hown hK hP 0 rfl rfl 1 (by decide) (hts (.fieldLink RX0 17 "KindTable" "kindCount" "I") (by decide +kernel)) (fun _ h9 => h9) rfl dX0_isKind_6 ?_
    refine lv_icmp_ge (tgt := 16) hx hb dX0_isKind_9 (by decide) (fun c9 => ?_) (fun c9 => ?_)
    · refine lv_iconst (v := 0) hx hb dX0_isKind_16 (by decide) ?_
      exact W.zret hx hb hr rfl (fun t ht hW => ⟨by rw [fX_isKind, if_neg c1, if_pos c9] <;> rfl, ht⟩) (fun _ h => by cases h) dX0_isKind_17
    · refine lv_iconst (v := 1) hx hb dX0_isKind_12 (by decide) ?_
      refine lv_goto (tgt := 17) hx hb dX0_isKind_13 (by decide) ?_
      exact W.zret hx hb hr rfl (fun t ht hW => ⟨by rw [fX_isKind, if_neg c1, if_neg c9] <;> rfl, ht⟩) (fun _ h => by cases h) dX0_isKind_17
def fX_isType (nt : Nat) (x1 : Int32) : Bool := if x1 < 0 then false else if (nI nt) ≤ x1 then false else true
set_option maxHeartbeats 4000000 in
set_option maxRecDepth 100000 in
theorem cX_isType (l : Launch) (dC : Nat → ClassId) (dI : Nat → Nat → Nat) (h0 qa qr qt : Nat) (cI cJ : ClassId) (av : Nat → Int32) (nk : Nat) (rv : Nat → Int32) (nr : Nat) (tv : Nat → Int64) (nt : Nat) (pk : Int32) (pn : Int64) (x1 : Int32) : Met l yX0_isType wsX0_isType ({ frames := 0, cells := 0, slots := 0, locals := 0 }) (kPr (dC, dI) vwCl [(cI, .int), (cJ, .long)] (xW h0 qa qr qt cI cJ av nk rv nr tv nt pk pn) [.ref h0, .int x1]) (k2_QcV (.int (bI (fX_isType nt x1)))) 0 0 kNo := by
  refine Met.ofW (cc := cX0_isType) (maxL := 2) (ret := (some .boolean)) (by decide) rfl ?_
  intro p e s m args below meth c s₁ B hml hv
  obtain ⟨rfl, hP, hK⟩ := hv
  have hx := B.exec
  have hb := B.bytes
  have hr := B.returns
  have hts := atoms_spec (ws := wsX0_isType) B.pre
  have hown : s.vm.findClass RX0 = some m.cls := findClass_of_methodNamed B.named
  have hlocks := B.notSynchronized
  have hin : ∀ w ∈ u_ws RX0 TX0 8, w ∈ wsX0_isType := by decide +kernel
  have hl := lv_entry ([.ref h0, .int x1]) (n := 2) (Nat.le_of_ble_eq_true rfl)
  rw [lg_entry_eq]
  generalize (lg_sl ([.ref h0, .int x1]) ++ List.replicate (2 - (lg_sl ([.ref h0, .int x1])).length) Slot.unset).toArray = ls at hl ⊢
  have hl : lv_has ls 2 [(0, .ref h0), (1, .int x1)] := hl
  refine lv_iload_n hx hb dX0_isType_0 rfl (lv_at hl 1 rfl) ?_
  refine lv_if_lt (tgt := 16) hx hb dX0_isType_1 (by decide) (fun c1 => ?_) (fun c1 => ?_)
  · refine lv_iconst (v := 0) hx hb dX0_isType_16 (by decide) ?_
    exact W.zret hx hb hr rfl (fun t ht hW => ⟨by rw [fX_isType, if_pos c1] <;> rfl, ht⟩) (fun _ h => by cases h) dX0_isType_17
  · refine lv_iload_n hx hb dX0_isType_4 rfl (lv_at hl 1 rfl) ?_
    refine lv_aload_n hx hb dX0_isType_5 rfl (lv_at hl 0 rfl) ?_
    refine va_get (D := (dC, dI)) (ci := 0) (v := .int (nI nt)) (C := RX0) (T := TX0) (N := 8) hx hb hts hin hown hK hP 0 rfl rfl 5 (by decide) (hts (.fieldLink RX0 31 "KindTable" "typeCount" "I") (by decide +kernel)) (fun _ h9 => h9) rfl dX0_isType_6 ?_
    refine lv_icmp_ge (tgt := 16) hx hb dX0_isType_9 (by decide) (fun c9 => ?_) (fun c9 => ?_)
    · refine lv_iconst (v := 0) hx hb dX0_isType_16 (by decide) ?_
      exact W.zret hx hb hr rfl (fun t ht hW => ⟨by rw [fX_isType, if_neg c1, if_pos c9] <;> rfl, ht⟩) (fun _ h => by cases h) dX0_isType_17
    · refine lv_iconst (v := 1) hx hb dX0_isType_12 (by decide) ?_
      refine lv_goto (tgt := 17) hx hb dX0_isType_13 (by decide) ?_
      exact W.zret hx hb hr rfl (fun t ht hW => ⟨by rw [fX_isType, if_neg c1, if_neg c9] <;> rfl, ht⟩) (fun _ h => by cases h) dX0_isType_17
def fX_mayBeParent (nk : Nat) (x1 : Int32) : Bool := if (bI (fX_isKind nk x1)) = 0 then false else if x1 = (7 : Int32) then true else if x1 = (19 : Int32) then true else if x1 < (20 : Int32) then false else true
set_option maxHeartbeats 4000000 in
set_option maxRecDepth 100000 in
theorem cX_mayBeParent (l : Launch) (dC : Nat → ClassId) (dI : Nat → Nat → Nat) (h0 qa qr qt : Nat) (cI cJ : ClassId) (av : Nat → Int32) (nk : Nat) (rv : Nat → Int32) (nr : Nat) (tv : Nat → Int64) (nt : Nat) (pk : Int32) (pn : Int64) (x1 : Int32) : Met l yX0_mayBeParent wsX0_mayBeParent ({ frames := 1, cells := 0, slots := 0, locals := 21 }) (kPr (dC, dI) vwCl [(cI, .int), (cJ, .long)] (xW h0 qa qr qt cI cJ av nk rv nr tv nt pk pn) [.ref h0, .int x1]) (k2_QcV (.int (bI (fX_mayBeParent nk x1)))) 0 0 kNo := by
  refine Met.ofW (cc := cX0_mayBeParent) (maxL := 2) (ret := (some .boolean)) (by decide) rfl ?_
  intro p e s m args below meth c s₁ B hml hv
  obtain ⟨rfl, hP, hK⟩ := hv
  have hx := B.exec
  have hb := B.bytes
  have hr := B.returns
  have hts := atoms_spec (ws := wsX0_mayBeParent) B.pre
  have hown : s.vm.findClass RX0 = some m.cls := findClass_of_methodNamed B.named
  have hlocks := B.notSynchronized
  have hl := lv_entry ([.ref h0, .int x1]) (n := 2) (Nat.le_of_ble_eq_true rfl)
  rw [lg_entry_eq]
  generalize (lg_sl ([.ref h0, .int x1]) ++ List.replicate (2 - (lg_sl ([.ref h0, .int x1])).length) Slot.unset).toArray = ls at hl ⊢
  have hl : lv_has ls 2 [(0, .ref h0), (1, .int x1)] := hl
  refine lv_aload_n hx hb dX0_mayBeParent_0 rfl (lv_at hl 0 rfl) ?_
  refine lv_iload_n hx hb dX0_mayBeParent_1 rfl (lv_at hl 1 rfl) ?_
  refine kc_R [.int x1] [] ⟨hx, hb, hml, hown, hts⟩ (cX_isKind l dC dI h0 qa qr qt cI cJ av nk rv nr tv nt pk pn x1) (cwV 1 hts gX0_mayBeParent_X0_isKind rfl rfl rfl (by decide +kernel) ⟨(Nat.le_of_ble_eq_true rfl), (Nat.le_of_ble_eq_true rfl)⟩) hP hK (ci := 0) (q0 := 0) rfl rfl rfl rfl hl.1 rfl (Nat.le_of_ble_eq_true rfl) dX0_mayBeParent_2 ⟨Nat.zero_le _, Nat.zero_le _⟩ ?_
  refine lv_if_eq (tgt := 30) hx hb dX0_mayBeParent_5 (by decide) (fun c5 => ?_) (fun c5 => ?_)
  · refine lv_iconst (v := 0) hx hb dX0_mayBeParent_30 (by decide) ?_
    exact W.zret hx hb hr rfl (fun t ht hW => ⟨by rw [fX_mayBeParent, if_pos c5] <;> rfl, ht⟩) (fun _ h => by cases h) dX0_mayBeParent_31
  · refine lv_iload_n hx hb dX0_mayBeParent_8 rfl (lv_at hl 1 rfl) ?_
    refine lv_bipush (v := 7) hx hb dX0_mayBeParent_9 (by decide) ?_
    refine lv_icmp_eq (tgt := 26) hx hb dX0_mayBeParent_11 (by decide) (fun c11 => ?_) (fun c11 => ?_)
    · refine lv_iconst (v := 1) hx hb dX0_mayBeParent_26 (by decide) ?_
      refine lv_goto (tgt := 31) hx hb dX0_mayBeParent_27 (by decide) ?_
      exact W.zret hx hb hr rfl (fun t ht hW => ⟨by rw [fX_mayBeParent, if_neg c5, if_pos c11] <;> rfl, ht⟩) (fun _ h => by cases h) dX0_mayBeParent_31
    · refine lv_iload_n hx hb dX0_mayBeParent_14 rfl (lv_at hl 1 rfl) ?_
      refine lv_bipush (v := 19) hx hb dX0_mayBeParent_15 (by decide) ?_
      refine lv_icmp_eq (tgt := 26) hx hb dX0_mayBeParent_17 (by decide) (fun c17 => ?_) (fun c17 => ?_)
      · refine lv_iconst (v := 1) hx hb dX0_mayBeParent_26 (by decide) ?_
        refine lv_goto (tgt := 31) hx hb dX0_mayBeParent_27 (by decide) ?_
        exact W.zret hx hb hr rfl (fun t ht hW => ⟨by rw [fX_mayBeParent, if_neg c5, if_neg c11, if_pos c17] <;> rfl, ht⟩) (fun _ h => by cases h) dX0_mayBeParent_31
      · refine lv_iload_n hx hb dX0_mayBeParent_20 rfl (lv_at hl 1 rfl) ?_
        refine lv_bipush (v := 20) hx hb dX0_mayBeParent_21 (by decide) ?_
        refine lv_icmp_lt (tgt := 30) hx hb dX0_mayBeParent_23 (by decide) (fun c23 => ?_) (fun c23 => ?_)
        · refine lv_iconst (v := 0) hx hb dX0_mayBeParent_30 (by decide) ?_
          exact W.zret hx hb hr rfl (fun t ht hW => ⟨by rw [fX_mayBeParent, if_neg c5, if_neg c11, if_neg c17, if_pos c23] <;> rfl, ht⟩) (fun _ h => by cases h) dX0_mayBeParent_31
        · refine lv_iconst (v := 1) hx hb dX0_mayBeParent_26 (by decide) ?_
          refine lv_goto (tgt := 31) hx hb dX0_mayBeParent_27 (by decide) ?_
          exact W.zret hx hb hr rfl (fun t ht hW => ⟨by rw [fX_mayBeParent, if_neg c5, if_neg c11, if_neg c17, if_neg c23] <;> rfl, ht⟩) (fun _ h => by cases h) dX0_mayBeParent_31
def fX_isObject (nk : Nat) (x1 : Int32) (x2 : Int64) : Bool := if (bI (fX_isKind nk x1)) = 0 then false else if (8 : Int32) < x1 then if (bI (fX_isBox x1)) = 0 then true else if (bI (fX_fits (x1 - (8 : Int32)) x2)) = 0 then false else true else false
set_option maxHeartbeats 4000000 in
set_option maxRecDepth 100000 in
theorem cX_isObject (l : Launch) (dC : Nat → ClassId) (dI : Nat → Nat → Nat) (h0 qa qr qt : Nat) (cI cJ : ClassId) (av : Nat → Int32) (nk : Nat) (rv : Nat → Int32) (nr : Nat) (tv : Nat → Int64) (nt : Nat) (pk : Int32) (pn : Int64) (x1 : Int32) (x2 : Int64) : Met l yX0_isObject wsX0_isObject ({ frames := 2, cells := 0, slots := 0, locals := 44 }) (kPr (dC, dI) vwCl [(cI, .int), (cJ, .long)] (xW h0 qa qr qt cI cJ av nk rv nr tv nt pk pn) [.ref h0, .int x1, .long x2]) (k2_QcV (.int (bI (fX_isObject nk x1 x2)))) 0 0 kNo := by
  refine Met.ofW (cc := cX0_isObject) (maxL := 4) (ret := (some .boolean)) (by decide) rfl ?_
  intro p e s m args below meth c s₁ B hml hv
  obtain ⟨rfl, hP, hK⟩ := hv
  have hx := B.exec
  have hb := B.bytes
  have hr := B.returns
  have hts := atoms_spec (ws := wsX0_isObject) B.pre
  have hown : s.vm.findClass RX0 = some m.cls := findClass_of_methodNamed B.named
  have hlocks := B.notSynchronized
  have hl := lv_entry ([.ref h0, .int x1, .long x2]) (n := 4) (Nat.le_of_ble_eq_true rfl)
  rw [lg_entry_eq]
  generalize (lg_sl ([.ref h0, .int x1, .long x2]) ++ List.replicate (4 - (lg_sl ([.ref h0, .int x1, .long x2])).length) Slot.unset).toArray = ls at hl ⊢
  have hl : lv_has ls 4 [(0, .ref h0), (1, .int x1), (2, .long x2)] := hl
  refine lv_aload_n hx hb dX0_isObject_0 rfl (lv_at hl 0 rfl) ?_
  refine lv_iload_n hx hb dX0_isObject_1 rfl (lv_at hl 1 rfl) ?_
  refine kc_R [.int x1] [] ⟨hx, hb, hml, hown, hts⟩ (cX_isKind l dC dI h0 qa qr qt cI cJ av nk rv nr tv nt pk pn x1) (cwV 1 hts gX0_isObject_X0_isKind rfl rfl rfl (by decide +kernel) ⟨(Nat.le_of_ble_eq_true rfl), (Nat.le_of_ble_eq_true rfl)⟩) hP hK (ci := 0) (q0 := 0) rfl rfl rfl rfl hl.1 rfl (Nat.le_of_ble_eq_true rfl) dX0_isObject_2 ⟨Nat.zero_le _, Nat.zero_le _⟩ ?_
  refine lv_if_eq (tgt := 14) hx hb dX0_isObject_5 (by decide) (fun c5 => ?_) (fun c5 => ?_)
  · refine lv_iconst (v := 0) hx hb dX0_isObject_14 (by decide) ?_
    exact W.zret hx hb hr rfl (fun t ht hW => ⟨by rw [fX_isObject, if_pos c5] <;> rfl, ht⟩) (fun _ h => by cases h) dX0_isObject_15
  · refine lv_iload_n hx hb dX0_isObject_8 rfl (lv_at hl 1 rfl) ?_
    refine lv_bipush (v := 8) hx hb dX0_isObject_9 (by decide) ?_
    refine lv_icmp_gt (tgt := 16) hx hb dX0_isObject_11 (by decide) (fun c11 => ?_) (fun c11 => ?_)
    · refine lv_iload_n hx hb dX0_isObject_16 rfl (lv_at hl 1 rfl) ?_
      refine kc_S [.int x1] [] ⟨hx, hb, hml, hown, hts⟩ (cX_isBox l x1) (cwS 1 hts gX0_isObject_X0_isBox rfl rfl rfl (by decide +kernel) ⟨(Nat.le_of_ble_eq_true rfl), (Nat.le_of_ble_eq_true rfl)⟩) rfl hl.1 rfl (Nat.le_of_ble_eq_true rfl) dX0_isObject_17 ⟨Nat.zero_le _, Nat.zero_le _⟩ ?_
      refine lv_if_eq (tgt := 34) hx hb dX0_isObject_20 (by decide) (fun c20 => ?_) (fun c20 => ?_)
      · refine lv_iconst (v := 1) hx hb dX0_isObject_34 (by decide) ?_
        refine lv_goto (tgt := 39) hx hb dX0_isObject_35 (by decide) ?_
        exact W.zret hx hb hr rfl (fun t ht hW => ⟨by rw [fX_isObject, if_neg c5, if_pos c11, if_pos c20] <;> rfl, ht⟩) (fun _ h => by cases h) dX0_isObject_39
      · refine lv_iload_n hx hb dX0_isObject_23 rfl (lv_at hl 1 rfl) ?_
        refine lv_bipush (v := 8) hx hb dX0_isObject_24 (by decide) ?_
        refine lv_isub hx hb dX0_isObject_26 ?_
        refine lv_lload_n hx hb dX0_isObject_27 rfl (lv_at hl 2 rfl) ?_
        refine kc_S [.int (x1 - (8 : Int32)), .long x2] [] ⟨hx, hb, hml, hown, hts⟩ (cX_fits l (x1 - (8 : Int32)) x2) (cwS 2 hts gX0_isObject_X0_fits rfl rfl rfl (by decide +kernel) ⟨(Nat.le_of_ble_eq_true rfl), (Nat.le_of_ble_eq_true rfl)⟩) rfl hl.1 rfl (Nat.le_of_ble_eq_true rfl) dX0_isObject_28 ⟨Nat.zero_le _, Nat.zero_le _⟩ ?_
        refine lv_if_eq (tgt := 38) hx hb dX0_isObject_31 (by decide) (fun c31 => ?_) (fun c31 => ?_)
        · refine lv_iconst (v := 0) hx hb dX0_isObject_38 (by decide) ?_
          exact W.zret hx hb hr rfl (fun t ht hW => ⟨by rw [fX_isObject, if_neg c5, if_pos c11, if_neg c20, if_pos c31] <;> rfl, ht⟩) (fun _ h => by cases h) dX0_isObject_39
        · refine lv_iconst (v := 1) hx hb dX0_isObject_34 (by decide) ?_
          refine lv_goto (tgt := 39) hx hb dX0_isObject_35 (by decide) ?_
          exact W.zret hx hb hr rfl (fun t ht hW => ⟨by rw [fX_isObject, if_neg c5, if_pos c11, if_neg c20, if_neg c31] <;> rfl, ht⟩) (fun _ h => by cases h) dX0_isObject_39
    · refine lv_iconst (v := 0) hx hb dX0_isObject_14 (by decide) ?_
      exact W.zret hx hb hr rfl (fun t ht hW => ⟨by rw [fX_isObject, if_neg c5, if_neg c11] <;> rfl, ht⟩) (fun _ h => by cases h) dX0_isObject_15
def fX_kind (pk : Int32)  : Int32 := pk
set_option maxHeartbeats 4000000 in
set_option maxRecDepth 100000 in
theorem cX_kind (l : Launch) (dC : Nat → ClassId) (dI : Nat → Nat → Nat) (h0 qa qr qt : Nat) (cI cJ : ClassId) (av : Nat → Int32) (nk : Nat) (rv : Nat → Int32) (nr : Nat) (tv : Nat → Int64) (nt : Nat) (pk : Int32) (pn : Int64) : Met l yX0_kind wsX0_kind ({ frames := 0, cells := 0, slots := 0, locals := 0 }) (kPr (dC, dI) vwCl [(cI, .int), (cJ, .long)] (xW h0 qa qr qt cI cJ av nk rv nr tv nt pk pn) [.ref h0]) (k2_QcV (.int (fX_kind pk))) 0 0 kNo := by
  refine Met.ofW (cc := cX0_kind) (maxL := 1) (ret := (some .int)) (by decide) rfl ?_
  intro p e s m args below meth c s₁ B hml hv
  obtain ⟨rfl, hP, hK⟩ := hv
  have hx := B.exec
  have hb := B.bytes
  have hr := B.returns
  have hts := atoms_spec (ws := wsX0_kind) B.pre
  have hown : s.vm.findClass RX0 = some m.cls := findClass_of_methodNamed B.named
  have hlocks := B.notSynchronized
  have hin : ∀ w ∈ u_ws RX0 TX0 8, w ∈ wsX0_kind := by decide +kernel
  have hl := lv_entry ([.ref h0]) (n := 1) (Nat.le_of_ble_eq_true rfl)
  rw [lg_entry_eq]
  generalize (lg_sl ([.ref h0]) ++ List.replicate (1 - (lg_sl ([.ref h0])).length) Slot.unset).toArray = ls at hl ⊢
  have hl : lv_has ls 1 [(0, .ref h0)] := hl
  refine lv_aload_n hx hb dX0_kind_0 rfl (lv_at hl 0 rfl) ?_
  refine va_get (D := (dC, dI)) (ci := 0) (v := .int pk) (C := RX0) (T := TX0) (N := 8) hx hb hts hin hown hK hP 0 rfl rfl 6 (by decide) (hts (.fieldLink RX0 34 "KindTable" "passedKind" "I") (by decide +kernel)) (fun _ h9 => h9) rfl dX0_kind_1 ?_
  exact W.iret hx hb hr (fun t ht hW => ⟨by rw [fX_kind] <;> rfl, ht⟩) (fun _ h => by cases h) dX0_kind_4
def fX_number (pn : Int64)  : Int64 := pn
set_option maxHeartbeats 4000000 in
set_option maxRecDepth 100000 in
theorem cX_number (l : Launch) (dC : Nat → ClassId) (dI : Nat → Nat → Nat) (h0 qa qr qt : Nat) (cI cJ : ClassId) (av : Nat → Int32) (nk : Nat) (rv : Nat → Int32) (nr : Nat) (tv : Nat → Int64) (nt : Nat) (pk : Int32) (pn : Int64) : Met l yX0_number wsX0_number ({ frames := 0, cells := 0, slots := 0, locals := 0 }) (kPr (dC, dI) vwCl [(cI, .int), (cJ, .long)] (xW h0 qa qr qt cI cJ av nk rv nr tv nt pk pn) [.ref h0]) (k2_QcV (.long (fX_number pn))) 0 0 kNo := by
  refine Met.ofW (cc := cX0_number) (maxL := 1) (ret := (some .long)) (by decide) rfl ?_
  intro p e s m args below meth c s₁ B hml hv
  obtain ⟨rfl, hP, hK⟩ := hv
  have hx := B.exec
  have hb := B.bytes
  have hr := B.returns
  have hts := atoms_spec (ws := wsX0_number) B.pre
  have hown : s.vm.findClass RX0 = some m.cls := findClass_of_methodNamed B.named
  have hlocks := B.notSynchronized
  have hin : ∀ w ∈ u_ws RX0 TX0 8, w ∈ wsX0_number := by decide +kernel
  have hl := lv_entry ([.ref h0]) (n := 1) (Nat.le_of_ble_eq_true rfl)
  rw [lg_entry_eq]
  generalize (lg_sl ([.ref h0]) ++ List.replicate (1 - (lg_sl ([.ref h0])).length) Slot.unset).toArray = ls at hl ⊢
  have hl : lv_has ls 1 [(0, .ref h0)] := hl
  refine lv_aload_n hx hb dX0_number_0 rfl (lv_at hl 0 rfl) ?_
  refine va_get (D := (dC, dI)) (ci := 0) (v := .long pn) (C := RX0) (T := TX0) (N := 8) hx hb hts hin hown hK hP 0 rfl rfl 7 (by decide) (hts (.fieldLink RX0 37 "KindTable" "passedNumber" "J") (by decide +kernel)) (fun _ h9 => h9) rfl dX0_number_1 ?_
  exact W.lret hx hb hr (fun t ht hW => ⟨by rw [fX_number] <;> rfl, ht⟩) (fun _ h => by cases h) dX0_number_4
theorem kAV_bit0 {bl : Nat → Nat → Bool} {av : Nat → Int32} {nk : Nat} (h : kAV bl av nk) (hn : nk ≤ 32) {x y : Int32} (hx : vp_in x nk) (hy : vp_in y 32) (c : ((av x.toNatClampNeg).toUInt32 >>> (y.toUInt32 &&& Int32.toUInt32 31)).toInt32 &&& 1 = 0) : blI bl x y = false := (kAV_bit h hn hx hy).mp c
theorem kAV_bit1 {bl : Nat → Nat → Bool} {av : Nat → Int32} {nk : Nat} (h : kAV bl av nk) (hn : nk ≤ 32) {x y : Int32} (hx : vp_in x nk) (hy : vp_in y 32) (c : ¬ ((av x.toNatClampNeg).toUInt32 >>> (y.toUInt32 &&& Int32.toUInt32 31)).toInt32 &&& 1 = 0) : blI bl x y = true := by
  cases hb : blI bl x y
  · exact absurd ((kAV_bit h hn hx hy).mpr hb) c
  · rfl
theorem rng_iff {n : Nat} (hn : n < 2 ^ 31) (x : Int32) : (if x < 0 then false else if (nI n) ≤ x then false else true) = true ↔ vp_in x n := by
  by_cases c1 : x < 0
  · rw [if_pos c1]; exact ⟨fun h => (by cases h), fun h => absurd (Or.inl c1) h⟩
  · rw [if_neg c1]
    obtain ⟨j, hj, rfl⟩ := nI_of c1
    by_cases c2 : nI n ≤ nI j
    · rw [if_pos c2]
      exact ⟨fun h => (by cases h), fun h => absurd (Or.inr (by rw [nI_clamp hj]; exact (nI_leI hn hj).mp c2)) h⟩
    · rw [if_neg c2]
      exact ⟨fun _ => vp_in_nI (Nat.not_le.mp (fun q => c2 (nI_le q hj))) hn, fun _ => rfl⟩
theorem bI_n0 {b : Bool} (h : ¬ bI b = 0) : b = true := by
  cases b
  · exact absurd rfl h
  · rfl
theorem bI_e0 {b : Bool} (h : bI b = 0) : b = false := by
  cases b
  · rfl
  · cases h
theorem kK_in {nk : Nat} {x : Int32} (hn : nk ≤ 32) (h : ¬ bI (fX_isKind nk x) = 0) : vp_in x nk := (rng_iff (by omega) x).mp (bI_n0 h)
theorem kT_in {nt : Nat} {x : Int32} (hn : nt ≤ 300) (h : ¬ bI (fX_isType nt x) = 0) : vp_in x nt := (rng_iff (by omega) x).mp (bI_n0 h)
theorem kO_in {nk : Nat} {x : Int32} {y : Int64} (hn : nk ≤ 32) (h : ¬ bI (fX_isObject nk x y) = 0) : vp_in x nk := by
  by_cases c : bI (fX_isKind nk x) = 0
  · exact absurd (by rw [fX_isObject, if_pos c]; rfl) h
  · exact kK_in hn c
theorem kPar_in {nk : Nat} {x : Int32} (hn : nk ≤ 32) (h : ¬ bI (fX_mayBeParent nk x) = 0) : vp_in x nk := by
  by_cases c : bI (fX_isKind nk x) = 0
  · exact absurd (by rw [fX_mayBeParent, if_pos c]; rfl) h
  · exact kK_in hn c
theorem plain_of {x : Int32} (h : fX_isPlain x = true) : ∃ j, 1 ≤ j ∧ j ≤ 6 ∧ x = nI j := by
  unfold fX_isPlain at h
  by_cases c1 : x < 1
  · rw [if_pos c1] at h; cases h
  · rw [if_neg c1] at h
    by_cases c2 : 6 < x
    · rw [if_pos c2] at h; cases h
    · rw [Int32.lt_iff_toInt_lt] at c1 c2
      have e1 : (1 : Int32).toInt = 1 := by decide
      have e6 : (6 : Int32).toInt = 6 := by decide
      obtain ⟨j, hj, rfl⟩ := vp_in_of (x := x) (n := 7) (vp_in_iff.mpr ⟨by omega, by omega⟩) (by decide)
      rw [nI_toInt (by omega)] at c1 c2
      exact ⟨j, by omega, by omega, rfl⟩
theorem kpl_in {nk : Nat} {x : Int32} (hn : 20 ≤ nk) (h : ¬ bI (fX_isPlain x) = 0) : vp_in (x + 8) nk := by
  obtain ⟨j, h1, h2, rfl⟩ := plain_of (bI_n0 h)
  refine vp_in_mono (a := 20) ?_ hn
  rw [show nI j + 8 = nI (j + 8) from nI_add j 8]
  exact vp_in_nI (by omega) (by decide)
theorem kput_in {nr : Nat} (hn : nr ≤ 20) (h : nI nr < 20) : vp_in (nI nr) 20 := vp_in_nI ((nI_ltI (by omega) (by decide)).mp h) (by decide)
theorem kNk_in {nk : Nat} (hn : nk ≤ 32) (h : ¬ (32 : Int32) ≤ nI nk) : vp_in (nI nk) 32 := vp_in_nI (Nat.not_le.mp (fun q => h (nI_le (a := 32) q (by omega)))) (by decide)

