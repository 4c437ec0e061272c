def fM_isPlain  (x0 : Int32) : Bool := if x0 < (1 : Int32) then false else if (6 : Int32) < x0 then false else true
set_option maxHeartbeats 4000000 in
set_option maxRecDepth 100000 in
theorem cM_isPlain (l : Launch) (x0 : Int32) : Met l yX1_isPlain wsZ1_isPlain ({ frames := 0, cells := 0, slots := 0, locals := 0 }) (kPs [.int x0]) (k2_QcV (.int (bI (fM_isPlain x0)))) 0 0 kNo := by
  refine Met.ofW (cc := cX1_isPlain) (maxL := 1) (ret := (some .boolean)) (by decide) rfl ?_
  intro p e s m args below meth c s₁ B hml hv
  obtain rfl : args = ([.int x0] : List Value).toArray := hv
  have hx := B.exec
  have hb := B.bytes
  have hr := B.returns
  have hts := atoms_spec (ws := wsZ1_isPlain) B.pre
  have hown : s.vm.findClass RX1 = some m.cls := findClass_of_methodNamed B.named
  have hlocks := B.notSynchronized
  have hl := lv_entry ([.int x0]) (n := 1) (Nat.le_of_ble_eq_true rfl)
  rw [lg_entry_eq]
  generalize (lg_sl ([.int x0]) ++ List.replicate (1 - (lg_sl ([.int x0])).length) Slot.unset).toArray = ls at hl ⊢
  have hl : lv_has ls 1 [(0, .int x0)] := hl
  refine lv_iload_n hx hb dX1_isPlain_0 rfl (lv_at hl 0 rfl) ?_
  refine lv_iconst (v := 1) hx hb dX1_isPlain_1 (by decide) ?_
  refine lv_icmp_lt (tgt := 15) hx hb dX1_isPlain_2 (by decide) (fun c2 => ?_) (fun c2 => ?_)
  · refine lv_iconst (v := 0) hx hb dX1_isPlain_15 (by decide) ?_
    exact W.zret hx hb hr rfl (fun t ht hW => ⟨by rw [fM_isPlain, if_pos c2] <;> rfl, ht⟩) (fun _ h => by cases h) dX1_isPlain_16
  · refine lv_iload_n hx hb dX1_isPlain_5 rfl (lv_at hl 0 rfl) ?_
    refine lv_bipush (v := 6) hx hb dX1_isPlain_6 (by decide) ?_
    refine lv_icmp_gt (tgt := 15) hx hb dX1_isPlain_8 (by decide) (fun c8 => ?_) (fun c8 => ?_)
    · refine lv_iconst (v := 0) hx hb dX1_isPlain_15 (by decide) ?_
      exact W.zret hx hb hr rfl (fun t ht hW => ⟨by rw [fM_isPlain, if_neg c2, if_pos c8] <;> rfl, ht⟩) (fun _ h => by cases h) dX1_isPlain_16
    · refine lv_iconst (v := 1) hx hb dX1_isPlain_11 (by decide) ?_
      refine lv_goto (tgt := 16) hx hb dX1_isPlain_12 (by decide) ?_
      exact W.zret hx hb hr rfl (fun t ht hW => ⟨by rw [fM_isPlain, if_neg c2, if_neg c8] <;> rfl, ht⟩) (fun _ h => by cases h) dX1_isPlain_16
def fM_isReference  (x0 : Int32) : Bool := if x0 < (7 : Int32) then false else true
set_option maxHeartbeats 4000000 in
set_option maxRecDepth 100000 in
theorem cM_isReference (l : Launch) (x0 : Int32) : Met l yX1_isReference wsZ1_isReference ({ frames := 0, cells := 0, slots := 0, locals := 0 }) (kPs [.int x0]) (k2_QcV (.int (bI (fM_isReference x0)))) 0 0 kNo := by
  refine Met.ofW (cc := cX1_isReference) (maxL := 1) (ret := (some .boolean)) (by decide) rfl ?_
  intro p e s m args below meth c s₁ B hml hv
  obtain rfl : args = ([.int x0] : List Value).toArray := hv
  have hx := B.exec
  have hb := B.bytes
  have hr := B.returns
  have hts := atoms_spec (ws := wsZ1_isReference) B.pre
  have hown : s.vm.findClass RX1 = some m.cls := findClass_of_methodNamed B.named
  have hlocks := B.notSynchronized
  have hl := lv_entry ([.int x0]) (n := 1) (Nat.le_of_ble_eq_true rfl)
  rw [lg_entry_eq]
  generalize (lg_sl ([.int x0]) ++ List.replicate (1 - (lg_sl ([.int x0])).length) Slot.unset).toArray = ls at hl ⊢
  have hl : lv_has ls 1 [(0, .int x0)] := hl
  refine lv_iload_n hx hb dX1_isReference_0 rfl (lv_at hl 0 rfl) ?_
  refine lv_bipush (v := 7) hx hb dX1_isReference_1 (by decide) ?_
  refine lv_icmp_lt (tgt := 10) hx hb dX1_isReference_3 (by decide) (fun c3 => ?_) (fun c3 => ?_)
  · refine lv_iconst (v := 0) hx hb dX1_isReference_10 (by decide) ?_
    exact W.zret hx hb hr rfl (fun t ht hW => ⟨by rw [fM_isReference, if_pos c3] <;> rfl, ht⟩) (fun _ h => by cases h) dX1_isReference_11
  · refine lv_iconst (v := 1) hx hb dX1_isReference_6 (by decide) ?_
    refine lv_goto (tgt := 11) hx hb dX1_isReference_7 (by decide) ?_
    exact W.zret hx hb hr rfl (fun t ht hW => ⟨by rw [fM_isReference, if_neg c3] <;> rfl, ht⟩) (fun _ h => by cases h) dX1_isReference_11
def fM_isBox  (x0 : Int32) : Bool := if x0 ≤ (8 : Int32) then false else if (15 : Int32) ≤ x0 then false else true
set_option maxHeartbeats 4000000 in
set_option maxRecDepth 100000 in
theorem cM_isBox (l : Launch) (x0 : Int32) : Met l yX1_isBox wsZ1_isBox ({ frames := 0, cells := 0, slots := 0, locals := 0 }) (kPs [.int x0]) (k2_QcV (.int (bI (fM_isBox x0)))) 0 0 kNo := by
  refine Met.ofW (cc := cX1_isBox) (maxL := 1) (ret := (some .boolean)) (by decide) rfl ?_
  intro p e s m args below meth c s₁ B hml hv
  obtain rfl : args = ([.int x0] : List Value).toArray := hv
  have hx := B.exec
  have hb := B.bytes
  have hr := B.returns
  have hts := atoms_spec (ws := wsZ1_isBox) B.pre
  have hown : s.vm.findClass RX1 = some m.cls := findClass_of_methodNamed B.named
  have hlocks := B.notSynchronized
  have hl := lv_entry ([.int x0]) (n := 1) (Nat.le_of_ble_eq_true rfl)
  rw [lg_entry_eq]
  generalize (lg_sl ([.int x0]) ++ List.replicate (1 - (lg_sl ([.int x0])).length) Slot.unset).toArray = ls at hl ⊢
  have hl : lv_has ls 1 [(0, .int x0)] := hl
  refine lv_iload_n hx hb dX1_isBox_0 rfl (lv_at hl 0 rfl) ?_
  refine lv_bipush (v := 8) hx hb dX1_isBox_1 (by decide) ?_
  refine lv_icmp_le (tgt := 16) hx hb dX1_isBox_3 (by decide) (fun c3 => ?_) (fun c3 => ?_)
  · refine lv_iconst (v := 0) hx hb dX1_isBox_16 (by decide) ?_
    exact W.zret hx hb hr rfl (fun t ht hW => ⟨by rw [fM_isBox, if_pos c3] <;> rfl, ht⟩) (fun _ h => by cases h) dX1_isBox_17
  · refine lv_iload_n hx hb dX1_isBox_6 rfl (lv_at hl 0 rfl) ?_
    refine lv_bipush (v := 15) hx hb dX1_isBox_7 (by decide) ?_
    refine lv_icmp_ge (tgt := 16) hx hb dX1_isBox_9 (by decide) (fun c9 => ?_) (fun c9 => ?_)
    · refine lv_iconst (v := 0) hx hb dX1_isBox_16 (by decide) ?_
      exact W.zret hx hb hr rfl (fun t ht hW => ⟨by rw [fM_isBox, if_neg c3, if_pos c9] <;> rfl, ht⟩) (fun _ h => by cases h) dX1_isBox_17
    · refine lv_iconst (v := 1) hx hb dX1_isBox_12 (by decide) ?_
      refine lv_goto (tgt := 17) hx hb dX1_isBox_13 (by decide) ?_
      exact W.zret hx hb hr rfl (fun t ht hW => ⟨by rw [fM_isBox, if_neg c3, if_neg c9] <;> rfl, ht⟩) (fun _ h => by cases h) dX1_isBox_17
def fM_widens  (x0 : Int32) (x1 : Int32) : Bool := if x0 = x1 then true else if x0 = (2 : Int32) then if x1 = (3 : Int32) then true else if x1 = (5 : Int32) then true else if x1 = (6 : Int32) then true else false else if x0 = (3 : Int32) then if x1 = (5 : Int32) then true else if x1 = (6 : Int32) then true else false else if x0 = (4 : Int32) then if x1 = (5 : Int32) then true else if x1 = (6 : Int32) then true else false else if x0 = (5 : Int32) then if x1 = (6 : Int32) then true else false else false
set_option maxHeartbeats 4000000 in
set_option maxRecDepth 100000 in
theorem cM_widens (l : Launch) (x0 : Int32) (x1 : Int32) : Met l yX1_widens wsZ1_widens ({ frames := 0, cells := 0, slots := 0, locals := 0 }) (kPs [.int x0, .int x1]) (k2_QcV (.int (bI (fM_widens x0 x1)))) 0 0 kNo := by
  refine Met.ofW (cc := cX1_widens) (maxL := 2) (ret := (some .boolean)) (by decide) rfl ?_
  intro p e s m args below meth c s₁ B hml hv
  obtain rfl : args = ([.int x0, .int x1] : List Value).toArray := hv
  have hx := B.exec
  have hb := B.bytes
  have hr := B.returns
  have hts := atoms_spec (ws := wsZ1_widens) B.pre
  have hown : s.vm.findClass RX1 = some m.cls := findClass_of_methodNamed B.named
  have hlocks := B.notSynchronized
  have hl := lv_entry ([.int x0, .int x1]) (n := 2) (Nat.le_of_ble_eq_true rfl)
  rw [lg_entry_eq]
  generalize (lg_sl ([.int x0, .int x1]) ++ List.replicate (2 - (lg_sl ([.int x0, .int x1])).length) Slot.unset).toArray = ls at hl ⊢
  have hl : lv_has ls 2 [(0, .int x0), (1, .int x1)] := hl
  refine lv_iload_n hx hb dX1_widens_0 rfl (lv_at hl 0 rfl) ?_
  refine lv_iload_n hx hb dX1_widens_1 rfl (lv_at hl 1 rfl) ?_
  refine lv_icmp_ne (tgt := 7) hx hb dX1_widens_2 (by decide) (fun c2 => ?_) (fun c2 => ?_)
  · refine lv_iload_n hx hb dX1_widens_7 rfl (lv_at hl 0 rfl) ?_
    by_cases c8_2 : x0 = (2 : Int32)
    · refine lv_tableIn (tgt := 40) hx hb dX1_widens_8 (by rw [c8_2]; decide) (by rw [c8_2]; decide) (off := 32) (by rw [c8_2]; decide) (by decide) ?_
      refine lv_iload_n hx hb dX1_widens_40 rfl (lv_at hl 1 rfl) ?_
      refine lv_iconst (v := 3) hx hb dX1_widens_41 (by decide) ?_
      refine lv_icmp_eq (tgt := 56) hx hb dX1_widens_42 (by decide) (fun c42 => ?_) (fun c42 => ?_)
      · refine lv_iconst (v := 1) hx hb dX1_widens_56 (by decide) ?_
        refine lv_goto (tgt := 61) hx hb dX1_widens_57 (by decide) ?_
        exact W.zret hx hb hr rfl (fun t ht hW => ⟨by rw [fM_widens, if_neg c2, if_pos c8_2, if_pos c42] <;> rfl, ht⟩) (fun _ h => by cases h) dX1_widens_61
      · refine lv_iload_n hx hb dX1_widens_45 rfl (lv_at hl 1 rfl) ?_
        refine lv_iconst (v := 5) hx hb dX1_widens_46 (by decide) ?_
        refine lv_icmp_eq (tgt := 56) hx hb dX1_widens_47 (by decide) (fun c47 => ?_) (fun c47 => ?_)
        · refine lv_iconst (v := 1) hx hb dX1_widens_56 (by decide) ?_
          refine lv_goto (tgt := 61) hx hb dX1_widens_57 (by decide) ?_
          exact W.zret hx hb hr rfl (fun t ht hW => ⟨by rw [fM_widens, if_neg c2, if_pos c8_2, if_neg c42, if_pos c47] <;> rfl, ht⟩) (fun _ h => by cases h) dX1_widens_61
        · refine lv_iload_n hx hb dX1_widens_50 rfl (lv_at hl 1 rfl) ?_
          refine lv_bipush (v := 6) hx hb dX1_widens_51 (by decide) ?_
          refine lv_icmp_ne (tgt := 60) hx hb dX1_widens_53 (by decide) (fun c53 => ?_) (fun c53 => ?_)
          · refine lv_iconst (v := 0) hx hb dX1_widens_60 (by decide) ?_
            exact W.zret hx hb hr rfl (fun t ht hW => ⟨by rw [fM_widens, if_neg c2, if_pos c8_2, if_neg c42, if_neg c47, if_neg c53] <;> rfl, ht⟩) (fun _ h => by cases h) dX1_widens_61
          · refine lv_iconst (v := 1) hx hb dX1_widens_56 (by decide) ?_
            refine lv_goto (tgt := 61) hx hb dX1_widens_57 (by decide) ?_
            exact W.zret hx hb hr rfl (fun t ht hW => ⟨by rw [fM_widens, if_neg c2, if_pos c8_2, if_neg c42, if_neg c47, if_pos c53] <;> rfl, ht⟩) (fun _ h => by cases h) dX1_widens_61
    by_cases c8_3 : x0 = (3 : Int32)
    · refine lv_tableIn (tgt := 62) hx hb dX1_widens_8 (by rw [c8_3]; decide) (by rw [c8_3]; decide) (off := 54) (by rw [c8_3]; decide) (by decide) ?_
      refine lv_iload_n hx hb dX1_widens_62 rfl (lv_at hl 1 rfl) ?_
      refine lv_iconst (v := 5) hx hb dX1_widens_63 (by decide) ?_
      refine lv_icmp_eq (tgt := 73) hx hb dX1_widens_64 (by decide) (fun c64 => ?_) (fun c64 => ?_)
      · refine lv_iconst (v := 1) hx hb dX1_widens_73 (by decide) ?_
        refine lv_goto (tgt := 78) hx hb dX1_widens_74 (by decide) ?_
        exact W.zret hx hb hr rfl (fun t ht hW => ⟨by rw [fM_widens, if_neg c2, if_neg c8_2, if_pos c8_3, if_pos c64] <;> rfl, ht⟩) (fun _ h => by cases h) dX1_widens_78
      · refine lv_iload_n hx hb dX1_widens_67 rfl (lv_at hl 1 rfl) ?_
        refine lv_bipush (v := 6) hx hb dX1_widens_68 (by decide) ?_
        refine lv_icmp_ne (tgt := 77) hx hb dX1_widens_70 (by decide) (fun c70 => ?_) (fun c70 => ?_)
        · refine lv_iconst (v := 0) hx hb dX1_widens_77 (by decide) ?_
          exact W.zret hx hb hr rfl (fun t ht hW => ⟨by rw [fM_widens, if_neg c2, if_neg c8_2, if_pos c8_3, if_neg c64, if_neg c70] <;> rfl, ht⟩) (fun _ h => by cases h) dX1_widens_78
        · refine lv_iconst (v := 1) hx hb dX1_widens_73 (by decide) ?_
          refine lv_goto (tgt := 78) hx hb dX1_widens_74 (by decide) ?_
          exact W.zret hx hb hr rfl (fun t ht hW => ⟨by rw [fM_widens, if_neg c2, if_neg c8_2, if_pos c8_3, if_neg c64, if_pos c70] <;> rfl, ht⟩) (fun _ h => by cases h) dX1_widens_78
    by_cases c8_4 : x0 = (4 : Int32)
    · refine lv_tableIn (tgt := 79) hx hb dX1_widens_8 (by rw [c8_4]; decide) (by rw [c8_4]; decide) (off := 71) (by rw [c8_4]; decide) (by decide) ?_
      refine lv_iload_n hx hb dX1_widens_79 rfl (lv_at hl 1 rfl) ?_
      refine lv_iconst (v := 5) hx hb dX1_widens_80 (by decide) ?_
      refine lv_icmp_eq (tgt := 90) hx hb dX1_widens_81 (by decide) (fun c81 => ?_) (fun c81 => ?_)
      · refine lv_iconst (v := 1) hx hb dX1_widens_90 (by decide) ?_
        refine lv_goto (tgt := 95) hx hb dX1_widens_91 (by decide) ?_
        exact W.zret hx hb hr rfl (fun t ht hW => ⟨by rw [fM_widens, if_neg c2, if_neg c8_2, if_neg c8_3, if_pos c8_4, if_pos c81] <;> rfl, ht⟩) (fun _ h => by cases h) dX1_widens_95
      · refine lv_iload_n hx hb dX1_widens_84 rfl (lv_at hl 1 rfl) ?_
        refine lv_bipush (v := 6) hx hb dX1_widens_85 (by decide) ?_
        refine lv_icmp_ne (tgt := 94) hx hb dX1_widens_87 (by decide) (fun c87 => ?_) (fun c87 => ?_)
        · refine lv_iconst (v := 0) hx hb dX1_widens_94 (by decide) ?_
          exact W.zret hx hb hr rfl (fun t ht hW => ⟨by rw [fM_widens, if_neg c2, if_neg c8_2, if_neg c8_3, if_pos c8_4, if_neg c81, if_neg c87] <;> rfl, ht⟩) (fun _ h => by cases h) dX1_widens_95
        · refine lv_iconst (v := 1) hx hb dX1_widens_90 (by decide) ?_
          refine lv_goto (tgt := 95) hx hb dX1_widens_91 (by decide) ?_
          exact W.zret hx hb hr rfl (fun t ht hW => ⟨by rw [fM_widens, if_neg c2, if_neg c8_2, if_neg c8_3, if_pos c8_4, if_neg c81, if_pos c87] <;> rfl, ht⟩) (fun _ h => by cases h) dX1_widens_95
    by_cases c8_5 : x0 = (5 : Int32)
    · refine lv_tableIn (tgt := 96) hx hb dX1_widens_8 (by rw [c8_5]; decide) (by rw [c8_5]; decide) (off := 88) (by rw [c8_5]; decide) (by decide) ?_
      refine lv_iload_n hx hb dX1_widens_96 rfl (lv_at hl 1 rfl) ?_
      refine lv_bipush (v := 6) hx hb dX1_widens_97 (by decide) ?_
      refine lv_icmp_ne (tgt := 106) hx hb dX1_widens_99 (by decide) (fun c99 => ?_) (fun c99 => ?_)
      · refine lv_iconst (v := 0) hx hb dX1_widens_106 (by decide) ?_
        exact W.zret hx hb hr rfl (fun t ht hW => ⟨by rw [fM_widens, if_neg c2, if_neg c8_2, if_neg c8_3, if_neg c8_4, if_pos c8_5, if_neg c99] <;> rfl, ht⟩) (fun _ h => by cases h) dX1_widens_107
      · refine lv_iconst (v := 1) hx hb dX1_widens_102 (by decide) ?_
        refine lv_goto (tgt := 107) hx hb dX1_widens_103 (by decide) ?_
        exact W.zret hx hb hr rfl (fun t ht hW => ⟨by rw [fM_widens, if_neg c2, if_neg c8_2, if_neg c8_3, if_neg c8_4, if_pos c8_5, if_pos c99] <;> rfl, ht⟩) (fun _ h => by cases h) dX1_widens_107
    refine lv_tableOut (tgt := 108) hx hb dX1_widens_8 (by have h2 := lv_neT c8_2 (a := 2) (by decide); have h3 := lv_neT c8_3 (a := 3) (by decide); have h4 := lv_neT c8_4 (a := 4) (by decide); have h5 := lv_neT c8_5 (a := 5) (by decide); omega) (by decide) ?_
    refine lv_iconst (v := 0) hx hb dX1_widens_108 (by decide) ?_
    exact W.zret hx hb hr rfl (fun t ht hW => ⟨by rw [fM_widens, if_neg c2, if_neg c8_2, if_neg c8_3, if_neg c8_4, if_neg c8_5] <;> rfl, ht⟩) (fun _ h => by cases h) dX1_widens_109
  · refine lv_iconst (v := 1) hx hb dX1_widens_5 (by decide) ?_
    exact W.zret hx hb hr rfl (fun t ht hW => ⟨by rw [fM_widens, if_pos c2] <;> rfl, ht⟩) (fun _ h => by cases h) dX1_widens_6
def fM_forcedTo  (x0 : Int32) (x1 : Int64) : Int64 := if x0 = (1 : Int32) then x1 &&& (1 : Int64) else if x0 = (2 : Int32) then x1.toInt32.toInt8.toInt32.toInt64 else if x0 = (3 : Int32) then x1.toInt32.toInt16.toInt32.toInt64 else if x0 = (4 : Int32) then x1 &&& (65535 : Int64) else if x0 = (5 : Int32) then x1.toInt32.toInt64 else x1
set_option maxHeartbeats 4000000 in
set_option maxRecDepth 100000 in
theorem cM_forcedTo (l : Launch) (x0 : Int32) (x1 : Int64) : Met l yX1_forcedTo wsZ1_forcedTo ({ frames := 0, cells := 0, slots := 0, locals := 0 }) (kPs [.int x0, .long x1]) (k2_QcV (.long (fM_forcedTo x0 x1))) 0 0 kNo := by
  refine Met.ofW (cc := cX1_forcedTo) (maxL := 3) (ret := (some .long)) (by decide) rfl ?_
  intro p e s m args below meth c s₁ B hml hv
  obtain rfl : args = ([.int x0, .long x1] : List Value).toArray := hv
  have hx := B.exec
  have hb := B.bytes
  have hr := B.returns
  have hts := atoms_spec (ws := wsZ1_forcedTo) B.pre
  have hown : s.vm.findClass RX1 = some m.cls := findClass_of_methodNamed B.named
  have hlocks := B.notSynchronized
  have hl := lv_entry ([.int x0, .long x1]) (n := 3) (Nat.le_of_ble_eq_true rfl)
  rw [lg_entry_eq]
  generalize (lg_sl ([.int x0, .long x1]) ++ List.replicate (3 - (lg_sl ([.int x0, .long x1])).length) Slot.unset).toArray = ls at hl ⊢
  have hl : lv_has ls 3 [(0, .int x0), (1, .long x1)] := hl
  refine lv_iload_n hx hb dX1_forcedTo_0 rfl (lv_at hl 0 rfl) ?_
  by_cases c1_1 : x0 = (1 : Int32)
  · refine lv_tableIn (tgt := 36) hx hb dX1_forcedTo_1 (by rw [c1_1]; decide) (by rw [c1_1]; decide) (off := 35) (by rw [c1_1]; decide) (by decide) ?_
    refine lv_lload_n hx hb dX1_forcedTo_36 rfl (lv_at hl 1 rfl) ?_
    refine lv_lconst (v := 1) hx hb dX1_forcedTo_37 (by decide) ?_
    refine lv_land hx hb dX1_forcedTo_38 ?_
    exact W.lret hx hb hr (fun t ht hW => ⟨by rw [fM_forcedTo, if_pos c1_1] <;> rfl, ht⟩) (fun _ h => by cases h) dX1_forcedTo_39
  by_cases c1_2 : x0 = (2 : Int32)
  · refine lv_tableIn (tgt := 40) hx hb dX1_forcedTo_1 (by rw [c1_2]; decide) (by rw [c1_2]; decide) (off := 39) (by rw [c1_2]; decide) (by decide) ?_
    refine lv_lload_n hx hb dX1_forcedTo_40 rfl (lv_at hl 1 rfl) ?_
    refine lv_l2i hx hb dX1_forcedTo_41 rfl ?_
    refine lv_i2b hx hb dX1_forcedTo_42 rfl ?_
    refine lv_i2l hx hb dX1_forcedTo_43 rfl ?_
    exact W.lret hx hb hr (fun t ht hW => ⟨by rw [fM_forcedTo, if_neg c1_1, if_pos c1_2] <;> rfl, ht⟩) (fun _ h => by cases h) dX1_forcedTo_44
  by_cases c1_3 : x0 = (3 : Int32)
  · refine lv_tableIn (tgt := 45) hx hb dX1_forcedTo_1 (by rw [c1_3]; decide) (by rw [c1_3]; decide) (off := 44) (by rw [c1_3]; decide) (by decide) ?_
    refine lv_lload_n hx hb dX1_forcedTo_45 rfl (lv_at hl 1 rfl) ?_
    refine lv_l2i hx hb dX1_forcedTo_46 rfl ?_
    refine lv_i2s hx hb dX1_forcedTo_47 rfl ?_
    refine lv_i2l hx hb dX1_forcedTo_48 rfl ?_
    exact W.lret hx hb hr (fun t ht hW => ⟨by rw [fM_forcedTo, if_neg c1_1, if_neg c1_2, if_pos c1_3] <;> rfl, ht⟩) (fun _ h => by cases h) dX1_forcedTo_49
  by_cases c1_4 : x0 = (4 : Int32)
  · refine lv_tableIn (tgt := 50) hx hb dX1_forcedTo_1 (by rw [c1_4]; decide) (by rw [c1_4]; decide) (off := 49) (by rw [c1_4]; decide) (by decide) ?_
    refine lv_lload_n hx hb dX1_forcedTo_50 rfl (lv_at hl 1 rfl) ?_
    refine lv_ldc2 (v := 65535) hx hb hown (hts _ (List.mem_cons_of_mem _ tk_cl_49)) dX1_forcedTo_51 ?_
    refine lv_land hx hb dX1_forcedTo_54 ?_
    exact W.lret hx hb hr (fun t ht hW => ⟨by rw [fM_forcedTo, if_neg c1_1, if_neg c1_2, if_neg c1_3, if_pos c1_4] <;> rfl, ht⟩) (fun _ h => by cases h) dX1_forcedTo_55
  by_cases c1_5 : x0 = (5 : Int32)
  · refine lv_tableIn (tgt := 56) hx hb dX1_forcedTo_1 (by rw [c1_5]; decide) (by rw [c1_5]; decide) (off := 55) (by rw [c1_5]; decide) (by decide) ?_
    refine lv_lload_n hx hb dX1_forcedTo_56 rfl (lv_at hl 1 rfl) ?_
    refine lv_l2i hx hb dX1_forcedTo_57 rfl ?_
    refine lv_i2l hx hb dX1_forcedTo_58 rfl ?_
    exact W.lret hx hb hr (fun t ht hW => ⟨by rw [fM_forcedTo, if_neg c1_1, if_neg c1_2, if_neg c1_3, if_neg c1_4, if_pos c1_5] <;> rfl, ht⟩) (fun _ h => by cases h) dX1_forcedTo_59
  refine lv_tableOut (tgt := 60) hx hb dX1_forcedTo_1 (by have h1 := lv_neT c1_1 (a := 1) (by decide); have h2 := lv_neT c1_2 (a := 2) (by decide); have h3 := lv_neT c1_3 (a := 3) (by decide); have h4 := lv_neT c1_4 (a := 4) (by decide); have h5 := lv_neT c1_5 (a := 5) (by decide); omega) (by decide) ?_
  refine lv_lload_n hx hb dX1_forcedTo_60 rfl (lv_at hl 1 rfl) ?_
  exact W.lret hx hb hr (fun t ht hW => ⟨by rw [fM_forcedTo, if_neg c1_1, if_neg c1_2, if_neg c1_3, if_neg c1_4, if_neg c1_5] <;> rfl, ht⟩) (fun _ h => by cases h) dX1_forcedTo_61
def fM_isNumber  (x0 : Int32) (x1 : Int64) : Bool := if x0 = (1 : Int32) then if (lg_cmp x1 (0 : Int64)) = 0 then true else if (lg_cmp x1 (1 : Int64)) = 0 then true else false else if (lg_cmp (fM_forcedTo x0 x1) x1) = 0 then true else false
set_option maxHeartbeats 4000000 in
set_option maxRecDepth 100000 in
theorem cM_isNumber (l : Launch) (x0 : Int32) (x1 : Int64) : Met l yX1_isNumber wsZ1_isNumber ({ frames := 1, cells := 0, slots := 0, locals := 22 }) (kPs [.int x0, .long x1]) (k2_QcV (.int (bI (fM_isNumber x0 x1)))) 0 0 kNo := by
  refine Met.ofW (cc := cX1_isNumber) (maxL := 3) (ret := (some .boolean)) (by decide) rfl ?_
  intro p e s m args below meth c s₁ B hml hv
  obtain rfl : args = ([.int x0, .long x1] : List Value).toArray := hv
  have hx := B.exec
  have hb := B.bytes
  have hr := B.returns
  have hts := atoms_spec (ws := wsZ1_isNumber) B.pre
  have hown : s.vm.findClass RX1 = some m.cls := findClass_of_methodNamed B.named
  have hlocks := B.notSynchronized
  have hl := lv_entry ([.int x0, .long x1]) (n := 3) (Nat.le_of_ble_eq_true rfl)
  rw [lg_entry_eq]
  generalize (lg_sl ([.int x0, .long x1]) ++ List.replicate (3 - (lg_sl ([.int x0, .long x1])).length) Slot.unset).toArray = ls at hl ⊢
  have hl : lv_has ls 3 [(0, .int x0), (1, .long x1)] := hl
  refine lv_iload_n hx hb dX1_isNumber_0 rfl (lv_at hl 0 rfl) ?_
  refine lv_iconst (v := 1) hx hb dX1_isNumber_1 (by decide) ?_
  refine lv_icmp_ne (tgt := 25) hx hb dX1_isNumber_2 (by decide) (fun c2 => ?_) (fun c2 => ?_)
  · refine lv_iload_n hx hb dX1_isNumber_25 rfl (lv_at hl 0 rfl) ?_
    refine lv_lload_n hx hb dX1_isNumber_26 rfl (lv_at hl 1 rfl) ?_
    refine kc_S [.int x0, .long x1] [] ⟨hx, hb, hml, hown, hts⟩ (cM_forcedTo l x0 x1) (cwS 2 hts gZ_isNumber_forcedTo rfl rfl rfl (by decide +kernel) ⟨(Nat.le_of_ble_eq_true rfl), (Nat.le_of_ble_eq_true rfl)⟩) rfl hl.1 rfl (Nat.le_of_ble_eq_true rfl) dX1_isNumber_27 ⟨Nat.zero_le _, Nat.zero_le _⟩ ?_
    refine lv_lload_n hx hb dX1_isNumber_30 rfl (lv_at hl 1 rfl) ?_
    refine W.lcmp hx hb dX1_isNumber_31 ?_
    refine lv_if_ne (tgt := 39) hx hb dX1_isNumber_32 (by decide) (fun c32 => ?_) (fun c32 => ?_)
    · refine lv_iconst (v := 0) hx hb dX1_isNumber_39 (by decide) ?_
      exact W.zret hx hb hr rfl (fun t ht hW => ⟨by rw [fM_isNumber, if_neg c2, if_neg c32] <;> rfl, ht⟩) (fun _ h => by cases h) dX1_isNumber_40
    · refine lv_iconst (v := 1) hx hb dX1_isNumber_35 (by decide) ?_
      refine lv_goto (tgt := 40) hx hb dX1_isNumber_36 (by decide) ?_
      exact W.zret hx hb hr rfl (fun t ht hW => ⟨by rw [fM_isNumber, if_neg c2, if_pos c32] <;> rfl, ht⟩) (fun _ h => by cases h) dX1_isNumber_40
  · refine lv_lload_n hx hb dX1_isNumber_5 rfl (lv_at hl 1 rfl) ?_
    refine lv_lconst (v := 0) hx hb dX1_isNumber_6 (by decide) ?_
    refine W.lcmp hx hb dX1_isNumber_7 ?_
    refine lv_if_eq (tgt := 17) hx hb dX1_isNumber_8 (by decide) (fun c8 => ?_) (fun c8 => ?_)
    · refine lv_iconst (v := 1) hx hb dX1_isNumber_17 (by decide) ?_
      refine lv_goto (tgt := 40) hx hb dX1_isNumber_18 (by decide) ?_
      exact W.zret hx hb hr rfl (fun t ht hW => ⟨by rw [fM_isNumber, if_pos c2, if_pos c8] <;> rfl, ht⟩) (fun _ h => by cases h) dX1_isNumber_40
    · refine lv_lload_n hx hb dX1_isNumber_11 rfl (lv_at hl 1 rfl) ?_
      refine lv_lconst (v := 1) hx hb dX1_isNumber_12 (by decide) ?_
      refine W.lcmp hx hb dX1_isNumber_13 ?_
      refine lv_if_ne (tgt := 21) hx hb dX1_isNumber_14 (by decide) (fun c14 => ?_) (fun c14 => ?_)
      · refine lv_iconst (v := 0) hx hb dX1_isNumber_21 (by decide) ?_
        refine lv_goto (tgt := 40) hx hb dX1_isNumber_22 (by decide) ?_
        exact W.zret hx hb hr rfl (fun t ht hW => ⟨by rw [fM_isNumber, if_pos c2, if_neg c8, if_neg c14] <;> rfl, ht⟩) (fun _ h => by cases h) dX1_isNumber_40
      · refine lv_iconst (v := 1) hx hb dX1_isNumber_17 (by decide) ?_
        refine lv_goto (tgt := 40) hx hb dX1_isNumber_18 (by decide) ?_
        exact W.zret hx hb hr rfl (fun t ht hW => ⟨by rw [fM_isNumber, if_pos c2, if_neg c8, if_pos c14] <;> rfl, ht⟩) (fun _ h => by cases h) dX1_isNumber_40
def fM_isKind (nc : Nat) (x1 : Int32) : Bool := if x1 < 0 then false else if ((20 : Int32) + (nI nc)) ≤ x1 then false else true
set_option maxHeartbeats 4000000 in
set_option maxRecDepth 100000 in
theorem cM_isKind (l : Launch) (dC : Nat → ClassId) (dI : Nat → Nat → Nat) (g0 gp gr gm gl gw gn : Nat) (cI : ClassId) (pv : Nat → Int32) (nc : Nat) (tr : Nat → Int32) (tm : Nat → Int32) (tp : Nat → Int32) (mt : Nat) (wv : Nat → Int32) (nw : Nat) (re : Int32) (nm : Nat) (np : Nat → Int32) (kk : Int32) (kn : Int64) (x1 : Int32) : Met l yX1_isKind wsZ1_isKind ({ frames := 0, cells := 0, slots := 0, locals := 0 }) (kPr (dC, dI) vwCl [(cI, .int)] (mW g0 gp gr gm gl gw gn cI pv nc tr tm tp mt wv nw re nm np kk kn) [.ref g0, .int x1]) (k2_QcV (.int (bI (fM_isKind nc x1)))) 0 0 kNo := by
  refine Met.ofW (cc := cX1_isKind) (maxL := 2) (ret := (some .boolean)) (by decide) rfl ?_
  intro p e s m args below meth c s₁ B hml hv
  obtain ⟨rfl, hP, hK⟩ := hv
  have hx := B.exec
  have hb := B.bytes
  have hr := B.returns
  have hts := atoms_spec (ws := wsZ1_isKind) B.pre
  have hown : s.vm.findClass RX1 = some m.cls := findClass_of_methodNamed B.named
  have hlocks := B.notSynchronized
  have hin : ∀ w ∈ u_ws RX1 TX1 13, w ∈ wsZ1_isKind := fun w h => List.mem_cons_of_mem _ (inZ1 w h)
  have hl := lv_entry ([.ref g0, .int x1]) (n := 2) (Nat.le_of_ble_eq_true rfl)
  rw [lg_entry_eq]
  generalize (lg_sl ([.ref g0, .int x1]) ++ List.replicate (2 - (lg_sl ([.ref g0, .int x1])).length) Slot.unset).toArray = ls at hl ⊢
  have hl : lv_has ls 2 [(0, .ref g0), (1, .int x1)] := hl
  refine lv_iload_n hx hb dX1_isKind_0 rfl (lv_at hl 1 rfl) ?_
  refine lv_if_lt (tgt := 19) hx hb dX1_isKind_1 (by decide) (fun c1 => ?_) (fun c1 => ?_)
  · refine lv_iconst (v := 0) hx hb dX1_isKind_19 (by decide) ?_
    exact W.zret hx hb hr rfl (fun t ht hW => ⟨by rw [fM_isKind, if_pos c1] <;> rfl, ht⟩) (fun _ h => by cases h) dX1_isKind_20
  · refine lv_iload_n hx hb dX1_isKind_4 rfl (lv_at hl 1 rfl) ?_
    refine lv_bipush (v := 20) hx hb dX1_isKind_5 (by decide) ?_
    refine lv_aload_n hx hb dX1_isKind_7 rfl (lv_at hl 0 rfl) ?_
    refine va_get (D := (dC, dI)) (ci := 1) (v := .int (nI nc)) (C := RX1) (T := TX1) (N := 13) hx hb hts hin hown hK hP 0 rfl rfl 1 (by decide) (hts _ (List.mem_cons_of_mem _ tk_fl_28)) (fun _ h9 => h9) rfl dX1_isKind_8 ?_
    refine lv_iadd hx hb dX1_isKind_11 ?_
    refine lv_icmp_ge (tgt := 19) hx hb dX1_isKind_12 (by decide) (fun c12 => ?_) (fun c12 => ?_)
    · refine lv_iconst (v := 0) hx hb dX1_isKind_19 (by decide) ?_
      exact W.zret hx hb hr rfl (fun t ht hW => ⟨by rw [fM_isKind, if_neg c1, if_pos c12] <;> rfl, ht⟩) (fun _ h => by cases h) dX1_isKind_20
    · refine lv_iconst (v := 1) hx hb dX1_isKind_15 (by decide) ?_
      refine lv_goto (tgt := 20) hx hb dX1_isKind_16 (by decide) ?_
      exact W.zret hx hb hr rfl (fun t ht hW => ⟨by rw [fM_isKind, if_neg c1, if_neg c12] <;> rfl, ht⟩) (fun _ h => by cases h) dX1_isKind_20
def fM_isType (mt : Nat) (x1 : Int32) : Bool := if x1 < 0 then false else if (nI mt) ≤ x1 then false else true
set_option maxHeartbeats 4000000 in
set_option maxRecDepth 100000 in
theorem cM_isType (l : Launch) (dC : Nat → ClassId) (dI : Nat → Nat → Nat) (g0 gp gr gm gl gw gn : Nat) (cI : ClassId) (pv : Nat → Int32) (nc : Nat) (tr : Nat → Int32) (tm : Nat → Int32) (tp : Nat → Int32) (mt : Nat) (wv : Nat → Int32) (nw : Nat) (re : Int32) (nm : Nat) (np : Nat → Int32) (kk : Int32) (kn : Int64) (x1 : Int32) : Met l yX1_isType wsZ1_isType ({ frames := 0, cells := 0, slots := 0, locals := 0 }) (kPr (dC, dI) vwCl [(cI, .int)] (mW g0 gp gr gm gl gw gn cI pv nc tr tm tp mt wv nw re nm np kk kn) [.ref g0, .int x1]) (k2_QcV (.int (bI (fM_isType mt x1)))) 0 0 kNo := by
  refine Met.ofW (cc := cX1_isType) (maxL := 2) (ret := (some .boolean)) (by decide) rfl ?_
  intro p e s m args below meth c s₁ B hml hv
  obtain ⟨rfl, hP, hK⟩ := hv
  have hx := B.exec
  have hb := B.bytes
  have hr := B.returns
  have hts := atoms_spec (ws := wsZ1_isType) B.pre
  have hown : s.vm.findClass RX1 = some m.cls := findClass_of_methodNamed B.named
  have hlocks := B.notSynchronized
  have hin : ∀ w ∈ u_ws RX1 TX1 13, w ∈ wsZ1_isType := fun w h => List.mem_cons_of_mem _ (inZ1 w h)
  have hl := lv_entry ([.ref g0, .int x1]) (n := 2) (Nat.le_of_ble_eq_true rfl)
  rw [lg_entry_eq]
  generalize (lg_sl ([.ref g0, .int x1]) ++ List.replicate (2 - (lg_sl ([.ref g0, .int x1])).length) Slot.unset).toArray = ls at hl ⊢
  have hl : lv_has ls 2 [(0, .ref g0), (1, .int x1)] := hl
  refine lv_iload_n hx hb dX1_isType_0 rfl (lv_at hl 1 rfl) ?_
  refine lv_if_lt (tgt := 16) hx hb dX1_isType_1 (by decide) (fun c1 => ?_) (fun c1 => ?_)
  · refine lv_iconst (v := 0) hx hb dX1_isType_16 (by decide) ?_
    exact W.zret hx hb hr rfl (fun t ht hW => ⟨by rw [fM_isType, if_pos c1] <;> rfl, ht⟩) (fun _ h => by cases h) dX1_isType_17
  · refine lv_iload_n hx hb dX1_isType_4 rfl (lv_at hl 1 rfl) ?_
    refine lv_aload_n hx hb dX1_isType_5 rfl (lv_at hl 0 rfl) ?_
    refine va_get (D := (dC, dI)) (ci := 1) (v := .int (nI mt)) (C := RX1) (T := TX1) (N := 13) hx hb hts hin hown hK hP 0 rfl rfl 5 (by decide) (hts _ (List.mem_cons_of_mem _ tk_fl_51)) (fun _ h9 => h9) rfl dX1_isType_6 ?_
    refine lv_icmp_ge (tgt := 16) hx hb dX1_isType_9 (by decide) (fun c9 => ?_) (fun c9 => ?_)
    · refine lv_iconst (v := 0) hx hb dX1_isType_16 (by decide) ?_
      exact W.zret hx hb hr rfl (fun t ht hW => ⟨by rw [fM_isType, if_neg c1, if_pos c9] <;> rfl, ht⟩) (fun _ h => by cases h) dX1_isType_17
    · refine lv_iconst (v := 1) hx hb dX1_isType_12 (by decide) ?_
      refine lv_goto (tgt := 17) hx hb dX1_isType_13 (by decide) ?_
      exact W.zret hx hb hr rfl (fun t ht hW => ⟨by rw [fM_isType, if_neg c1, if_neg c9] <;> rfl, ht⟩) (fun _ h => by cases h) dX1_isType_17
def fM_isObject (nc : Nat) (x1 : Int32) : Bool := if (bI (fM_isKind nc x1)) = 0 then false else if x1 ≤ (8 : Int32) then false else true
set_option maxHeartbeats 4000000 in
set_option maxRecDepth 100000 in
theorem cM_isObject (l : Launch) (dC : Nat → ClassId) (dI : Nat → Nat → Nat) (g0 gp gr gm gl gw gn : Nat) (cI : ClassId) (pv : Nat → Int32) (nc : Nat) (tr : Nat → Int32) (tm : Nat → Int32) (tp : Nat → Int32) (mt : Nat) (wv : Nat → Int32) (nw : Nat) (re : Int32) (nm : Nat) (np : Nat → Int32) (kk : Int32) (kn : Int64) (x1 : Int32) : Met l yX1_isObject wsZ1_isObject ({ frames := 1, cells := 0, slots := 0, locals := 21 }) (kPr (dC, dI) vwCl [(cI, .int)] (mW g0 gp gr gm gl gw gn cI pv nc tr tm tp mt wv nw re nm np kk kn) [.ref g0, .int x1]) (k2_QcV (.int (bI (fM_isObject nc x1)))) 0 0 kNo := by
  refine Met.ofW (cc := cX1_isObject) (maxL := 2) (ret := (some .boolean)) (by decide) rfl ?_
  intro p e s m args below meth c s₁ B hml hv
  obtain ⟨rfl, hP, hK⟩ := hv
  have hx := B.exec
  have hb := B.bytes
  have hr := B.returns
  have hts := atoms_spec (ws := wsZ1_isObject) B.pre
  have hown : s.vm.findClass RX1 = some m.cls := findClass_of_methodNamed B.named
  have hlocks := B.notSynchronized
  have hl := lv_entry ([.ref g0, .int x1]) (n := 2) (Nat.le_of_ble_eq_true rfl)
  rw [lg_entry_eq]
  generalize (lg_sl ([.ref g0, .int x1]) ++ List.replicate (2 - (lg_sl ([.ref g0, .int x1])).length) Slot.unset).toArray = ls at hl ⊢
  have hl : lv_has ls 2 [(0, .ref g0), (1, .int x1)] := hl
  refine lv_aload_n hx hb dX1_isObject_0 rfl (lv_at hl 0 rfl) ?_
  refine lv_iload_n hx hb dX1_isObject_1 rfl (lv_at hl 1 rfl) ?_
  refine kc_R [.int x1] [] ⟨hx, hb, hml, hown, hts⟩ (cM_isKind l dC dI g0 gp gr gm gl gw gn cI pv nc tr tm tp mt wv nw re nm np kk kn x1) (cwV 1 hts gZ_isObject_isKind rfl rfl rfl (by decide +kernel) ⟨(Nat.le_of_ble_eq_true rfl), (Nat.le_of_ble_eq_true rfl)⟩) hP hK (ci := 1) (q0 := 0) rfl rfl rfl rfl hl.1 rfl (Nat.le_of_ble_eq_true rfl) dX1_isObject_2 ⟨Nat.zero_le _, Nat.zero_le _⟩ ?_
  refine lv_if_eq (tgt := 18) hx hb dX1_isObject_5 (by decide) (fun c5 => ?_) (fun c5 => ?_)
  · refine lv_iconst (v := 0) hx hb dX1_isObject_18 (by decide) ?_
    exact W.zret hx hb hr rfl (fun t ht hW => ⟨by rw [fM_isObject, if_pos c5] <;> rfl, ht⟩) (fun _ h => by cases h) dX1_isObject_19
  · refine lv_iload_n hx hb dX1_isObject_8 rfl (lv_at hl 1 rfl) ?_
    refine lv_bipush (v := 8) hx hb dX1_isObject_9 (by decide) ?_
    refine lv_icmp_le (tgt := 18) hx hb dX1_isObject_11 (by decide) (fun c11 => ?_) (fun c11 => ?_)
    · refine lv_iconst (v := 0) hx hb dX1_isObject_18 (by decide) ?_
      exact W.zret hx hb hr rfl (fun t ht hW => ⟨by rw [fM_isObject, if_neg c5, if_pos c11] <;> rfl, ht⟩) (fun _ h => by cases h) dX1_isObject_19
    · refine lv_iconst (v := 1) hx hb dX1_isObject_14 (by decide) ?_
      refine lv_goto (tgt := 19) hx hb dX1_isObject_15 (by decide) ?_
      exact W.zret hx hb hr rfl (fun t ht hW => ⟨by rw [fM_isObject, if_neg c5, if_neg c11] <;> rfl, ht⟩) (fun _ h => by cases h) dX1_isObject_19
def fM_kind (kk : Int32)  : Int32 := kk
set_option maxHeartbeats 4000000 in
set_option maxRecDepth 100000 in
theorem cM_kind (l : Launch) (dC : Nat → ClassId) (dI : Nat → Nat → Nat) (g0 gp gr gm gl gw gn : Nat) (cI : ClassId) (pv : Nat → Int32) (nc : Nat) (tr : Nat → Int32) (tm : Nat → Int32) (tp : Nat → Int32) (mt : Nat) (wv : Nat → Int32) (nw : Nat) (re : Int32) (nm : Nat) (np : Nat → Int32) (kk : Int32) (kn : Int64) : Met l yX1_kind wsZ1_kind ({ frames := 0, cells := 0, slots := 0, locals := 0 }) (kPr (dC, dI) vwCl [(cI, .int)] (mW g0 gp gr gm gl gw gn cI pv nc tr tm tp mt wv nw re nm np kk kn) [.ref g0]) (k2_QcV (.int (fM_kind kk))) 0 0 kNo := by
  refine Met.ofW (cc := cX1_kind) (maxL := 1) (ret := (some .int)) (by decide) rfl ?_
  intro p e s m args below meth c s₁ B hml hv
  obtain ⟨rfl, hP, hK⟩ := hv
  have hx := B.exec
  have hb := B.bytes
  have hr := B.returns
  have hts := atoms_spec (ws := wsZ1_kind) B.pre
  have hown : s.vm.findClass RX1 = some m.cls := findClass_of_methodNamed B.named
  have hlocks := B.notSynchronized
  have hin : ∀ w ∈ u_ws RX1 TX1 13, w ∈ wsZ1_kind := fun w h => List.mem_cons_of_mem _ (inZ1 w h)
  have hl := lv_entry ([.ref g0]) (n := 1) (Nat.le_of_ble_eq_true rfl)
  rw [lg_entry_eq]
  generalize (lg_sl ([.ref g0]) ++ List.replicate (1 - (lg_sl ([.ref g0])).length) Slot.unset).toArray = ls at hl ⊢
  have hl : lv_has ls 1 [(0, .ref g0)] := hl
  refine lv_aload_n hx hb dX1_kind_0 rfl (lv_at hl 0 rfl) ?_
  refine va_get (D := (dC, dI)) (ci := 1) (v := .int kk) (C := RX1) (T := TX1) (N := 13) hx hb hts hin hown hK hP 0 rfl rfl 11 (by decide) (hts _ (List.mem_cons_of_mem _ tk_fl_75)) (fun _ h9 => h9) rfl dX1_kind_1 ?_
  exact W.iret hx hb hr (fun t ht hW => ⟨by rw [fM_kind] <;> rfl, ht⟩) (fun _ h => by cases h) dX1_kind_4
def fM_number (kn : Int64)  : Int64 := kn
set_option maxHeartbeats 4000000 in
set_option maxRecDepth 100000 in
theorem cM_number (l : Launch) (dC : Nat → ClassId) (dI : Nat → Nat → Nat) (g0 gp gr gm gl gw gn : Nat) (cI : ClassId) (pv : Nat → Int32) (nc : Nat) (tr : Nat → Int32) (tm : Nat → Int32) (tp : Nat → Int32) (mt : Nat) (wv : Nat → Int32) (nw : Nat) (re : Int32) (nm : Nat) (np : Nat → Int32) (kk : Int32) (kn : Int64) : Met l yX1_number wsZ1_number ({ frames := 0, cells := 0, slots := 0, locals := 0 }) (kPr (dC, dI) vwCl [(cI, .int)] (mW g0 gp gr gm gl gw gn cI pv nc tr tm tp mt wv nw re nm np kk kn) [.ref g0]) (k2_QcV (.long (fM_number kn))) 0 0 kNo := by
  refine Met.ofW (cc := cX1_number) (maxL := 1) (ret := (some .long)) (by decide) rfl ?_
  intro p e s m args below meth c s₁ B hml hv
  obtain ⟨rfl, hP, hK⟩ := hv
  have hx := B.exec
  have hb := B.bytes
  have hr := B.returns
  have hts := atoms_spec (ws := wsZ1_number) B.pre
  have hown : s.vm.findClass RX1 = some m.cls := findClass_of_methodNamed B.named
  have hlocks := B.notSynchronized
  have hin : ∀ w ∈ u_ws RX1 TX1 13, w ∈ wsZ1_number := fun w h => List.mem_cons_of_mem _ (inZ1 w h)
  have hl := lv_entry ([.ref g0]) (n := 1) (Nat.le_of_ble_eq_true rfl)
  rw [lg_entry_eq]
  generalize (lg_sl ([.ref g0]) ++ List.replicate (1 - (lg_sl ([.ref g0])).length) Slot.unset).toArray = ls at hl ⊢
  have hl : lv_has ls 1 [(0, .ref g0)] := hl
  refine lv_aload_n hx hb dX1_number_0 rfl (lv_at hl 0 rfl) ?_
  refine va_get (D := (dC, dI)) (ci := 1) (v := .long kn) (C := RX1) (T := TX1) (N := 13) hx hb hts hin hown hK hP 0 rfl rfl 12 (by decide) (hts _ (List.mem_cons_of_mem _ tk_fl_78)) (fun _ h9 => h9) rfl dX1_number_1 ?_
  exact W.lret hx hb hr (fun t ht hW => ⟨by rw [fM_number] <;> rfl, ht⟩) (fun _ h => by cases h) dX1_number_4
def kPV (pv : Nat → Int32) (pr : Nat → Nat) (n : Nat) : Prop := ∀ i, i < n → pv i = nI (pr i)
theorem mK_eq (nc : Nat) (x : Int32) : fM_isKind nc x = fX_isKind (20 + nc) x := by
  unfold fM_isKind fX_isKind
  rw [show (20 : Int32) + nI nc = nI (20 + nc) from nI_add 20 nc]
theorem mT_eq (mt : Nat) (x : Int32) : fM_isType mt x = fX_isType mt x := rfl
theorem mK_in {nc : Nat} {x : Int32} (hn : nc ≤ 12) (h : ¬ bI (fM_isKind nc x) = 0) : vp_in x (20 + nc) := kK_in (by omega) (by rw [mK_eq] at h; exact h)
theorem mT_in {mt : Nat} {x : Int32} (hn : mt ≤ 300) (h : ¬ bI (fM_isType mt x) = 0) : vp_in x mt := kT_in hn (by rw [mT_eq] at h; exact h)
theorem mO_in {nc : Nat} {x : Int32} (hn : nc ≤ 12) (h : ¬ bI (fM_isObject nc x) = 0) : vp_in x (20 + nc) := by
  by_cases c : bI (fM_isKind nc x) = 0
  · exact absurd (by rw [fM_isObject, if_pos c]; rfl) h
  · exact mK_in hn c
theorem mpl_in {nc : Nat} {x : Int32} (h : ¬ bI (fM_isPlain x) = 0) : vp_in (x + 8) (20 + nc) := kpl_in (by omega) h
theorem ref_n {i : Nat} (hi : i < 2 ^ 31) (c : ¬ bI (fM_isReference (nI i)) = 0) : 7 ≤ i := by
  rcases Nat.lt_or_ge i 7 with q | q
  · exact absurd (by rw [fM_isReference, if_pos (show nI i < 7 from nI_lt (b := 7) q (by decide))]; rfl) c
  · exact q
theorem ref_e {i : Nat} (hi : i < 2 ^ 31) (c : bI (fM_isReference (nI i)) = 0) : i < 7 := by
  rcases Nat.lt_or_ge i 7 with q | q
  · exact q
  · have := bI_e0 c
    rw [fM_isReference, if_neg (show ¬ nI i < 7 from nI_nlt (b := 7) q hi)] at this
    cases this
theorem bl0_lo : ∀ i, i < 20 → ∀ j, j < 32 → i ≠ j → i < 7 → bl0 i j = false := by decide +kernel
theorem bl0_lo2 : ∀ i, i < 20 → ∀ j, j < 32 → i ≠ j → j < 7 → bl0 i j = false := by decide +kernel
theorem bl0_7 : ∀ i, i < 20 → 7 ≤ i → bl0 i 7 = true := by decide +kernel
theorem bl0_8 : ∀ i, i < 20 → i ≠ 8 → bl0 i 8 = (decide (i = 10) || decide (i = 11) || decide (i = 13) || decide (i = 14)) := by decide +kernel
theorem bl0_hi : ∀ i, i < 20 → ∀ j, j < 32 → i ≠ j → 9 ≤ j → bl0 i j = false := by decide +kernel
theorem bm_lo {bl : Nat → Nat → Bool} {pr : Nat → Nat} {n : Nat} (h : kBL bl pr n) : ∀ (i j : Nat), i < 20 + n → j < 32 → i ≠ j → j < 7 → bl i j = false := by
  intro i
  induction i using Nat.strongRecOn with
  | ind i ih =>
    intro j hi hj hne h7
    rcases Nat.lt_or_ge i 20 with h1 | h1
    · rw [h.1 i h1 j hj]
      exact bl0_lo2 i h1 j hj hne h7
    · obtain ⟨k, rfl⟩ : ∃ k, i = 20 + k := ⟨i - 20, by omega⟩
      obtain ⟨h2, h3⟩ := h.2 k (by omega)
      rw [h3 j hj, decide_eq_false hne, Bool.false_or]
      exact ih (pr k) (by omega) j (by omega) hj (by omega) h7
theorem bm_lo1 {bl : Nat → Nat → Bool} {pr : Nat → Nat} {n : Nat} (h : kBL bl pr n) (i j : Nat) (_ : i < 20 + n) (hj : j < 32) (hne : i ≠ j) (h7 : i < 7) : bl i j = false := by
  rw [h.1 i (by omega) j hj]
  exact bl0_lo i (by omega) j hj hne h7
theorem bm_7 {bl : Nat → Nat → Bool} {pr : Nat → Nat} {n : Nat} (h : kBL bl pr n) : ∀ (i : Nat), i < 20 + n → 7 ≤ i → bl i 7 = true := by
  intro i
  induction i using Nat.strongRecOn with
  | ind i ih =>
    intro hi h7
    rcases Nat.lt_or_ge i 20 with h1 | h1
    · rw [h.1 i h1 7 (by decide)]
      exact bl0_7 i h1 h7
    · obtain ⟨k, rfl⟩ : ∃ k, i = 20 + k := ⟨i - 20, by omega⟩
      obtain ⟨h2, h3⟩ := h.2 k (by omega)
      rw [h3 7 (by decide), ih (pr k) (by omega) (by omega) (by omega), Bool.or_true]
theorem bm_8 {bl : Nat → Nat → Bool} {pr : Nat → Nat} {n : Nat} (h : kBL bl pr n) : ∀ (i : Nat), i < 20 + n → i ≠ 8 → bl i 8 = (decide (i = 10) || decide (i = 11) || decide (i = 13) || decide (i = 14)) := by
  intro i
  induction i using Nat.strongRecOn with
  | ind i ih =>
    intro hi h8
    rcases Nat.lt_or_ge i 20 with h1 | h1
    · rw [h.1 i h1 8 (by decide)]
      exact bl0_8 i h1 h8
    · obtain ⟨k, rfl⟩ : ∃ k, i = 20 + k := ⟨i - 20, by omega⟩
      obtain ⟨h2, h3⟩ := h.2 k (by omega)
      rw [h3 8 (by decide), ih (pr k) (by omega) (by omega) (by omega), decide_eq_false (by omega : ¬ 20 + k = 8), decide_eq_false (by omega : ¬ 20 + k = 10), decide_eq_false (by omega : ¬ 20 + k = 11), decide_eq_false (by omega : ¬ 20 + k = 13), decide_eq_false (by omega : ¬ 20 + k = 14), decide_eq_false (by omega : ¬ pr k = 10), decide_eq_false (by omega : ¬ pr k = 11), decide_eq_false (by omega : ¬ pr k = 13), decide_eq_false (by omega : ¬ pr k = 14)]
      rfl
theorem kz_sub (k : Nat) : nI (20 + k) - 20 = nI k := by
  rw [show (20 : Int32) = nI 20 from rfl, pk_sub (by omega), Nat.add_sub_cancel_left]
def oI (o : Option Nat) : Int32 := match o with
  | some i => nI i
  | none => -1
theorem ix10 {t k : Nat} : (10 : Int32) * nI t + nI k = nI (10 * t + k) := by
  rw [show (10 : Int32) = nI 10 from rfl, pk_mul, nI_add]

set_option maxHeartbeats 4000000 in
set_option maxRecDepth 100000 in
theorem cM_isBelow (l : Launch) (dC : Nat → ClassId) (dI : Nat → Nat → Nat) (g0 gp gr gm gl gw gn : Nat) (cI : ClassId) (pv : Nat → Int32) (nc : Nat) (tr : Nat → Int32) (tm : Nat → Int32) (tp : Nat → Int32) (mt : Nat) (wv : Nat → Int32) (nw : Nat) (re : Int32) (nm : Nat) (np : Nat → Int32) (kk : Int32) (kn : Int64) (bl : Nat → Nat → Bool) (pr : Nat → Nat) (x1 : Int32) (x2 : Int32) (hPV : kPV pv pr nc) (hBL : kBL bl pr nc) (hnc : nc ≤ 12) (hx1 : vp_in x1 (20 + nc)) (hx2 : vp_in x2 32) : Met l yX1_isBelow wsZ1_isBelow ({ frames := 1, cells := 0, slots := 0, locals := 20 }) (kPr (dC, dI) vwCl [(cI, .int)] (mW g0 gp gr gm gl gw gn cI pv nc tr tm tp mt wv nw re nm np kk kn) [.ref g0, .int x1, .int x2]) (k2_QcV (.int (bI (blI bl x1 x2)))) 0 0 kNo := by
  refine Met.ofW (cc := cX1_isBelow) (maxL := 4) (ret := (some .boolean)) (by decide) rfl ?_
  intro p e s m args below meth c s₁ B hml hv
  obtain ⟨rfl, hP, hK⟩ := hv
  have hx := B.exec
  have hb := B.bytes
  have hr := B.returns
  have hts := atoms_spec (ws := wsZ1_isBelow) B.pre
  have hown : s.vm.findClass RX1 = some m.cls := findClass_of_methodNamed B.named
  have hlocks := B.notSynchronized
  have hin : ∀ w ∈ u_ws RX1 TX1 13, w ∈ wsZ1_isBelow := fun w h => List.mem_cons_of_mem _ (inZ1 w h)
  have hl := lv_entry ([.ref g0, .int x1, .int x2]) (n := 4) (Nat.le_of_ble_eq_true rfl)
  rw [lg_entry_eq]
  generalize (lg_sl ([.ref g0, .int x1, .int x2]) ++ List.replicate (4 - (lg_sl ([.ref g0, .int x1, .int x2])).length) Slot.unset).toArray = ls at hl ⊢
  have hl : lv_has ls 4 [(0, .ref g0), (1, .int x1), (2, .int x2)] := hl
  obtain ⟨i, hi, rfl⟩ := vp_in_of hx1 (by omega)
  obtain ⟨j, hj, rfl⟩ := vp_in_of hx2 (by omega)
  refine lv_iload_n hx hb dX1_isBelow_0 rfl (lv_at hl 1 rfl) ?_
  refine lv_iload_n hx hb dX1_isBelow_1 rfl (lv_at hl 2 rfl) ?_
  refine lv_icmp_ne (tgt := 7) hx hb dX1_isBelow_2 (by decide) (fun c2 => ?_) (fun c2 => ?_)
  · refine lv_iload_n hx hb dX1_isBelow_7 rfl (lv_at hl 1 rfl) ?_
    refine kc_S [.int (nI i)] [] ⟨hx, hb, hml, hown, hts⟩ (cM_isReference l (nI i)) (cwS 1 hts gZ_isBelow_isReference rfl rfl rfl (by decide +kernel) ⟨(Nat.le_of_ble_eq_true rfl), (Nat.le_of_ble_eq_true rfl)⟩) rfl hl.1 rfl (Nat.le_of_ble_eq_true rfl) dX1_isBelow_8 ⟨Nat.zero_le _, Nat.zero_le _⟩ ?_
    refine lv_if_eq (tgt := 21) hx hb dX1_isBelow_11 (by decide) (fun c11 => ?_) (fun c11 => ?_)
    · refine lv_iconst (v := 0) hx hb dX1_isBelow_21 (by decide) ?_
      exact W.zret hx hb hr rfl (fun t ht hW => ⟨by rw [blI_nI bl (by omega) (by omega), bm_lo1 hBL i j (by omega) hj (fun q => c2 (by rw [q])) (ref_e (by omega) c11)] <;> rfl, ht⟩) (fun _ h => by cases h) dX1_isBelow_22
    · refine lv_iload_n hx hb dX1_isBelow_14 rfl (lv_at hl 2 rfl) ?_
      refine kc_S [.int (nI j)] [] ⟨hx, hb, hml, hown, hts⟩ (cM_isReference l (nI j)) (cwS 1 hts gZ_isBelow_isReference rfl rfl rfl (by decide +kernel) ⟨(Nat.le_of_ble_eq_true rfl), (Nat.le_of_ble_eq_true rfl)⟩) rfl hl.1 rfl (Nat.le_of_ble_eq_true rfl) dX1_isBelow_15 ⟨Nat.zero_le _, Nat.zero_le _⟩ ?_
      refine lv_if_ne (tgt := 23) hx hb dX1_isBelow_18 (by decide) (fun c18 => ?_) (fun c18 => ?_)
      · refine lv_iload_n hx hb dX1_isBelow_23 rfl (lv_at hl 2 rfl) ?_
        refine lv_bipush (v := 7) hx hb dX1_isBelow_24 (by decide) ?_
        refine lv_icmp_ne (tgt := 31) hx hb dX1_isBelow_26 (by decide) (fun c26 => ?_) (fun c26 => ?_)
        · refine lv_iload_n hx hb dX1_isBelow_31 rfl (lv_at hl 2 rfl) ?_
          refine lv_bipush (v := 8) hx hb dX1_isBelow_32 (by decide) ?_
          refine lv_icmp_ne (tgt := 67) hx hb dX1_isBelow_34 (by decide) (fun c34 => ?_) (fun c34 => ?_)
          · refine lv_iload_n hx hb dX1_isBelow_67 rfl (lv_at hl 1 rfl) ?_
            refine lv_istore_n (lv' := [(3, .int (nI i)), (0, .ref g0), (1, .int (nI i)), (2, .int (nI j))]) hx hb dX1_isBelow_68 rfl hl (by decide) rfl (fun ls hl => ?_)
            have h7 : 7 ≤ j := ref_n (by omega) c18
            have hj7 : j ≠ 7 := fun q => c26 (by rw [q]; rfl)
            have hj8 : j ≠ 8 := fun q => c34 (by rw [q]; rfl)
            suffices loop : ∀ (n z : Nat), z < n → z < 20 + nc → z ≠ j → bl z j = bl i j → ∀ (ls : Array Slot), lv_has ls 4 [(3, .int (nI z)), (0, .ref g0), (1, .int (nI i)), (2, .int (nI j))] → W p l e (headSpec wsZ1_isBelow ({ frames := 1, cells := 0, slots := 0, locals := 20 })).room s m ([.ref g0, .int (nI i), .int (nI j)] : List Value).toArray below meth c s.heap [] 0 0 (MQ below (k2_QcV (.int (bI (blI bl (nI i) (nI j))))) ([.ref g0, .int (nI i), .int (nI j)] : List Value).toArray s 0 0 kNo) (F0 m 69 ls []) by
              exact loop (i + 1) i (by omega) hi (fun q => c2 (by rw [q])) rfl ls (lv_sub hl [0, 1, 2, 3] rfl)
            intro n
            induction n with
            | zero => intro z hz; omega
            | succ n ih =>
              intro z hz hzn hzj he ls hl
              refine lv_iload_n hx hb dX1_isBelow_69 rfl (lv_at hl 0 rfl) ?_
              refine lv_bipush (v := 20) hx hb dX1_isBelow_70 (by decide) ?_
              refine lv_icmp_lt (tgt := 92) hx hb dX1_isBelow_72 (by decide) (fun c72 => ?_) (fun c72 => ?_)
              · refine lv_iconst (v := 0) hx hb dX1_isBelow_92 (by decide) ?_
                exact W.zret hx hb hr rfl (fun t ht hW => ⟨by rw [blI_nI bl (by omega) (by omega), ← he, hBL.1 z ((nI_ltI (b := 20) (by omega) (by decide)).mp c72) j hj, bl0_hi z ((nI_ltI (b := 20) (by omega) (by decide)).mp c72) j hj hzj (by omega)] <;> rfl, ht⟩) (fun _ h => by cases h) dX1_isBelow_93
              · have hz20 : 20 ≤ z := Nat.not_lt.mp (fun q => c72 (nI_lt (b := 20) q (by decide)))
                obtain ⟨k, rfl⟩ : ∃ k, z = 20 + k := ⟨z - 20, by omega⟩
                obtain ⟨hs1, hs2⟩ := hBL.2 k (by omega)
                refine lv_aload_n hx hb dX1_isBelow_75 rfl (lv_at hl 1 rfl) ?_
                refine va_get (D := (dC, dI)) (ci := 1) (v := .ref gp) (C := RX1) (T := TX1) (N := 13) hx hb hts hin hown hK hP 0 rfl rfl 0 (by decide) (hts _ (List.mem_cons_of_mem _ tk_fl_7)) (fun _ h9 => h9) rfl dX1_isBelow_76 ?_
                refine lv_iload_n hx hb dX1_isBelow_79 rfl (lv_at hl 0 rfl) ?_
                refine lv_bipush (v := 20) hx hb dX1_isBelow_80 (by decide) ?_
                refine lv_isub hx hb dX1_isBelow_82 ?_
                refine kv_topi (y := nI k) (kz_sub k) ?_
                refine va_iald hx hb hK hP 1 0 rfl rfl (vp_in_nI (by omega) (by decide)) dX1_isBelow_83 ?_
                refine kv_topi (y := nI (pr k)) (by rw [nI_clamp (by omega), hPV k (by omega)]) ?_
                refine lv_istore_n (lv' := [(3, .int (nI (pr k))), (0, .ref g0), (1, .int (nI i)), (2, .int (nI j))]) hx hb dX1_isBelow_84 rfl hl (by decide) rfl (fun ls hl => ?_)
                refine lv_iload_n hx hb dX1_isBelow_85 rfl (lv_at hl 0 rfl) ?_
                refine lv_iload_n hx hb dX1_isBelow_86 rfl (lv_at hl 3 rfl) ?_
                refine lv_icmp_ne (tgt := 69) hx hb dX1_isBelow_87 (by decide) (fun c87 => ?_) (fun c87 => ?_)
                · exact ih (pr k) (by omega) (by omega) (fun q => c87 (by rw [q])) (by rw [← he, hs2 j hj, decide_eq_false (by omega), Bool.false_or]) ls (lv_sub hl [0, 1, 2, 3] rfl)
                · refine lv_iconst (v := 1) hx hb dX1_isBelow_90 (by decide) ?_
                  exact W.zret hx hb hr rfl (fun t ht hW => ⟨by rw [blI_nI bl (by omega) (by omega), ← he, hs2 j hj, (nI_eq (by omega) (by omega)).mp c87, kBL_refl hBL hnc (by have := (nI_eq (by omega) (by omega)).mp c87; omega), Bool.or_true] <;> rfl, ht⟩) (fun _ h => by cases h) dX1_isBelow_91
          · refine lv_iload_n hx hb dX1_isBelow_37 rfl (lv_at hl 1 rfl) ?_
            refine lv_bipush (v := 10) hx hb dX1_isBelow_38 (by decide) ?_
            refine lv_icmp_eq (tgt := 61) hx hb dX1_isBelow_40 (by decide) (fun c40 => ?_) (fun c40 => ?_)
            · refine lv_iconst (v := 1) hx hb dX1_isBelow_61 (by decide) ?_
              refine lv_goto (tgt := 66) hx hb dX1_isBelow_62 (by decide) ?_
              exact W.zret hx hb hr rfl (fun t ht hW => ⟨by rw [blI_nI bl (by omega) (by omega), (show j = 8 from (nI_eq (b := 8) (by omega) (by decide)).mp c34), bm_8 hBL i (by omega) (fun q => c2 (by rw [q]; exact c34.symm)), decide_eq_true ((nI_eq (b := 10) (by omega) (by decide)).mp c40)] <;> simp [bI], ht⟩) (fun _ h => by cases h) dX1_isBelow_66
            · refine lv_iload_n hx hb dX1_isBelow_43 rfl (lv_at hl 1 rfl) ?_
              refine lv_bipush (v := 11) hx hb dX1_isBelow_44 (by decide) ?_
              refine lv_icmp_eq (tgt := 61) hx hb dX1_isBelow_46 (by decide) (fun c46 => ?_) (fun c46 => ?_)
              · refine lv_iconst (v := 1) hx hb dX1_isBelow_61 (by decide) ?_
                refine lv_goto (tgt := 66) hx hb dX1_isBelow_62 (by decide) ?_
                exact W.zret hx hb hr rfl (fun t ht hW => ⟨by rw [blI_nI bl (by omega) (by omega), (show j = 8 from (nI_eq (b := 8) (by omega) (by decide)).mp c34), bm_8 hBL i (by omega) (fun q => c2 (by rw [q]; exact c34.symm)), decide_eq_false (fun q : i = 10 => c40 (by rw [q]; rfl)), decide_eq_true ((nI_eq (b := 11) (by omega) (by decide)).mp c46)] <;> simp [bI], ht⟩) (fun _ h => by cases h) dX1_isBelow_66
              · refine lv_iload_n hx hb dX1_isBelow_49 rfl (lv_at hl 1 rfl) ?_
                refine lv_bipush (v := 13) hx hb dX1_isBelow_50 (by decide) ?_
                refine lv_icmp_eq (tgt := 61) hx hb dX1_isBelow_52 (by decide) (fun c52 => ?_) (fun c52 => ?_)
                · refine lv_iconst (v := 1) hx hb dX1_isBelow_61 (by decide) ?_
                  refine lv_goto (tgt := 66) hx hb dX1_isBelow_62 (by decide) ?_
                  exact W.zret hx hb hr rfl (fun t ht hW => ⟨by rw [blI_nI bl (by omega) (by omega), (show j = 8 from (nI_eq (b := 8) (by omega) (by decide)).mp c34), bm_8 hBL i (by omega) (fun q => c2 (by rw [q]; exact c34.symm)), decide_eq_false (fun q : i = 10 => c40 (by rw [q]; rfl)), decide_eq_false (fun q : i = 11 => c46 (by rw [q]; rfl)), decide_eq_true ((nI_eq (b := 13) (by omega) (by decide)).mp c52)] <;> simp [bI], ht⟩) (fun _ h => by cases h) dX1_isBelow_66
                · refine lv_iload_n hx hb dX1_isBelow_55 rfl (lv_at hl 1 rfl) ?_
                  refine lv_bipush (v := 14) hx hb dX1_isBelow_56 (by decide) ?_
                  refine lv_icmp_ne (tgt := 65) hx hb dX1_isBelow_58 (by decide) (fun c58 => ?_) (fun c58 => ?_)
                  · refine lv_iconst (v := 0) hx hb dX1_isBelow_65 (by decide) ?_
                    exact W.zret hx hb hr rfl (fun t ht hW => ⟨by rw [blI_nI bl (by omega) (by omega), (show j = 8 from (nI_eq (b := 8) (by omega) (by decide)).mp c34), bm_8 hBL i (by omega) (fun q => c2 (by rw [q]; exact c34.symm)), decide_eq_false (fun q : i = 10 => c40 (by rw [q]; rfl)), decide_eq_false (fun q : i = 11 => c46 (by rw [q]; rfl)), decide_eq_false (fun q : i = 13 => c52 (by rw [q]; rfl)), decide_eq_false (fun q : i = 14 => c58 (by rw [q]; rfl))] <;> simp [bI], ht⟩) (fun _ h => by cases h) dX1_isBelow_66
                  · refine lv_iconst (v := 1) hx hb dX1_isBelow_61 (by decide) ?_
                    refine lv_goto (tgt := 66) hx hb dX1_isBelow_62 (by decide) ?_
                    exact W.zret hx hb hr rfl (fun t ht hW => ⟨by rw [blI_nI bl (by omega) (by omega), (show j = 8 from (nI_eq (b := 8) (by omega) (by decide)).mp c34), bm_8 hBL i (by omega) (fun q => c2 (by rw [q]; exact c34.symm)), decide_eq_false (fun q : i = 10 => c40 (by rw [q]; rfl)), decide_eq_false (fun q : i = 11 => c46 (by rw [q]; rfl)), decide_eq_false (fun q : i = 13 => c52 (by rw [q]; rfl)), decide_eq_true ((nI_eq (b := 14) (by omega) (by decide)).mp c58)] <;> simp [bI], ht⟩) (fun _ h => by cases h) dX1_isBelow_66
        · refine lv_iconst (v := 1) hx hb dX1_isBelow_29 (by decide) ?_
          exact W.zret hx hb hr rfl (fun t ht hW => ⟨by rw [blI_nI bl (by omega) (by omega), (show j = 7 from (nI_eq (b := 7) (by omega) (by decide)).mp c26), bm_7 hBL i (by omega) (ref_n (by omega) c11)] <;> rfl, ht⟩) (fun _ h => by cases h) dX1_isBelow_30
      · refine lv_iconst (v := 0) hx hb dX1_isBelow_21 (by decide) ?_
        exact W.zret hx hb hr rfl (fun t ht hW => ⟨by rw [blI_nI bl (by omega) (by omega), bm_lo hBL i j (by omega) hj (fun q => c2 (by rw [q])) (ref_e (by omega) c18)] <;> rfl, ht⟩) (fun _ h => by cases h) dX1_isBelow_22
  · refine lv_iconst (v := 1) hx hb dX1_isBelow_5 (by decide) ?_
    exact W.zret hx hb hr rfl (fun t ht hW => ⟨by rw [c2, blI_nI bl (by omega) (by omega), kBL_refl hBL hnc (by have := (nI_eq (by omega) (by omega)).mp c2; omega)] <;> rfl, ht⟩) (fun _ h => by cases h) dX1_isBelow_6
def fM_mayPass (bl : Nat → Nat → Bool) (x1 : Int32) (x2 : Int32) (x3 : Bool) (x4 : Bool) : Bool := if x1 = x2 then true else if x1 = 0 then x4 else if x2 = 0 then x4 else if (bI (fM_isPlain x1)) = 0 then if (bI (fM_isPlain x1)) = 0 then if (bI (fM_isReference x2)) = 0 then if x1 = (7 : Int32) then true else if x1 = (8 : Int32) then if (bI x3) = 0 then if x2 = (2 : Int32) then true else if x2 = (3 : Int32) then true else if x2 = (5 : Int32) then true else if x2 = (6 : Int32) then true else false else true else if (bI (fM_isBox x1)) = 0 then false else if (bI x3) = 0 then if (bI (fM_widens (x1 - (8 : Int32)) x2)) = 0 then false else true else true else true else (blI bl (x1 + (8 : Int32)) x2) else if (bI (fM_isPlain x2)) = 0 then if (bI (fM_isPlain x1)) = 0 then if (bI (fM_isReference x2)) = 0 then if x1 = (7 : Int32) then true else if x1 = (8 : Int32) then if (bI x3) = 0 then if x2 = (2 : Int32) then true else if x2 = (3 : Int32) then true else if x2 = (5 : Int32) then true else if x2 = (6 : Int32) then true else false else true else if (bI (fM_isBox x1)) = 0 then false else if (bI x3) = 0 then if (bI (fM_widens (x1 - (8 : Int32)) x2)) = 0 then false else true else true else true else (blI bl (x1 + (8 : Int32)) x2) else if (bI x3) = 0 then if (bI (fM_widens x1 x2)) = 0 then false else true else true
set_option maxHeartbeats 4000000 in
set_option maxRecDepth 100000 in
theorem cM_mayPass (l : Launch) (dC : Nat → ClassId) (dI : Nat → Nat → Nat) (g0 gp gr gm gl gw gn : Nat) (cI : ClassId) (pv : Nat → Int32) (nc : Nat) (tr : Nat → Int32) (tm : Nat → Int32) (tp : Nat → Int32) (mt : Nat) (wv : Nat → Int32) (nw : Nat) (re : Int32) (nm : Nat) (np : Nat → Int32) (kk : Int32) (kn : Int64) (bl : Nat → Nat → Bool) (pr : Nat → Nat) (x1 : Int32) (x2 : Int32) (x3 : Bool) (x4 : Bool) (hPV : kPV pv pr nc) (hBL : kBL bl pr nc) (hnc : nc ≤ 12) (hx2 : vp_in x2 32) : Met l yX1_mayPass wsZ1_mayPass ({ frames := 2, cells := 0, slots := 0, locals := 43 }) (kPr (dC, dI) vwCl [(cI, .int)] (mW g0 gp gr gm gl gw gn cI pv nc tr tm tp mt wv nw re nm np kk kn) [.ref g0, .int x1, .int x2, .int (bI x3), .int (bI x4)]) (k2_QcV (.int (bI (fM_mayPass bl x1 x2 x3 x4)))) 0 0 kNo := by
  refine Met.ofW (cc := cX1_mayPass) (maxL := 5) (ret := (some .boolean)) (by decide) rfl ?_
  intro p e s m args below meth c s₁ B hml hv
  obtain ⟨rfl, hP, hK⟩ := hv
  have hx := B.exec
  have hb := B.bytes
  have hr := B.returns
  have hts := atoms_spec (ws := wsZ1_mayPass) B.pre
  have hown : s.vm.findClass RX1 = some m.cls := findClass_of_methodNamed B.named
  have hlocks := B.notSynchronized
  have hl := lv_entry ([.ref g0, .int x1, .int x2, .int (bI x3), .int (bI x4)]) (n := 5) (Nat.le_of_ble_eq_true rfl)
  rw [lg_entry_eq]
  generalize (lg_sl ([.ref g0, .int x1, .int x2, .int (bI x3), .int (bI x4)]) ++ List.replicate (5 - (lg_sl ([.ref g0, .int x1, .int x2, .int (bI x3), .int (bI x4)])).length) Slot.unset).toArray = ls at hl ⊢
  have hl : lv_has ls 5 [(0, .ref g0), (1, .int x1), (2, .int x2), (3, .int (bI x3)), (4, .int (bI x4))] := hl
  refine lv_iload_n hx hb dX1_mayPass_0 rfl (lv_at hl 1 rfl) ?_
  refine lv_iload_n hx hb dX1_mayPass_1 rfl (lv_at hl 2 rfl) ?_
  refine lv_icmp_ne (tgt := 7) hx hb dX1_mayPass_2 (by decide) (fun c2 => ?_) (fun c2 => ?_)
  · refine lv_iload_n hx hb dX1_mayPass_7 rfl (lv_at hl 1 rfl) ?_
    refine lv_if_eq (tgt := 15) hx hb dX1_mayPass_8 (by decide) (fun c8 => ?_) (fun c8 => ?_)
    · refine lv_iload hx hb dX1_mayPass_15 (lv_at hl 4 rfl) ?_
      exact W.zret hx hb hr (bI_nar x4) (fun t ht hW => ⟨by rw [fM_mayPass, if_neg c2, if_pos c8] <;> rfl, ht⟩) (fun _ h => by cases h) dX1_mayPass_17
    · refine lv_iload_n hx hb dX1_mayPass_11 rfl (lv_at hl 2 rfl) ?_
      refine lv_if_ne (tgt := 18) hx hb dX1_mayPass_12 (by decide) (fun c12 => ?_) (fun c12 => ?_)
      · refine lv_iload_n hx hb dX1_mayPass_18 rfl (lv_at hl 1 rfl) ?_
        refine kc_S [.int x1] [] ⟨hx, hb, hml, hown, hts⟩ (cM_isPlain l x1) (cwS 1 hts gZ_mayPass_isPlain rfl rfl rfl (by decide +kernel) ⟨(Nat.le_of_ble_eq_true rfl), (Nat.le_of_ble_eq_true rfl)⟩) rfl hl.1 rfl (Nat.le_of_ble_eq_true rfl) dX1_mayPass_19 ⟨Nat.zero_le _, Nat.zero_le _⟩ ?_
        refine lv_if_eq (tgt := 50) hx hb dX1_mayPass_22 (by decide) (fun c22 => ?_) (fun c22 => ?_)
        · refine lv_iload_n hx hb dX1_mayPass_50 rfl (lv_at hl 1 rfl) ?_
          refine kc_S [.int x1] [] ⟨hx, hb, hml, hown, hts⟩ (cM_isPlain l x1) (cwS 1 hts gZ_mayPass_isPlain rfl rfl rfl (by decide +kernel) ⟨(Nat.le_of_ble_eq_true rfl), (Nat.le_of_ble_eq_true rfl)⟩) rfl hl.1 rfl (Nat.le_of_ble_eq_true rfl) dX1_mayPass_51 ⟨Nat.zero_le _, Nat.zero_le _⟩ ?_
          refine lv_if_eq (tgt := 67) hx hb dX1_mayPass_54 (by decide) (fun c54 => ?_) (fun c54 => ?_)
          · refine lv_iload_n hx hb dX1_mayPass_67 rfl (lv_at hl 2 rfl) ?_
            refine kc_S [.int x2] [] ⟨hx, hb, hml, hown, hts⟩ (cM_isReference l x2) (cwS 1 hts gZ_mayPass_isReference rfl rfl rfl (by decide +kernel) ⟨(Nat.le_of_ble_eq_true rfl), (Nat.le_of_ble_eq_true rfl)⟩) rfl hl.1 rfl (Nat.le_of_ble_eq_true rfl) dX1_mayPass_68 ⟨Nat.zero_le _, Nat.zero_le _⟩ ?_
            refine lv_if_eq (tgt := 76) hx hb dX1_mayPass_71 (by decide) (fun c71 => ?_) (fun c71 => ?_)
            · refine lv_iload_n hx hb dX1_mayPass_76 rfl (lv_at hl 1 rfl) ?_
              refine lv_bipush (v := 7) hx hb dX1_mayPass_77 (by decide) ?_
              refine lv_icmp_ne (tgt := 84) hx hb dX1_mayPass_79 (by decide) (fun c79 => ?_) (fun c79 => ?_)
              · refine lv_iload_n hx hb dX1_mayPass_84 rfl (lv_at hl 1 rfl) ?_
                refine lv_bipush (v := 8) hx hb dX1_mayPass_85 (by decide) ?_
                refine lv_icmp_ne (tgt := 121) hx hb dX1_mayPass_87 (by decide) (fun c87 => ?_) (fun c87 => ?_)
                · refine lv_iload_n hx hb dX1_mayPass_121 rfl (lv_at hl 1 rfl) ?_
                  refine kc_S [.int x1] [] ⟨hx, hb, hml, hown, hts⟩ (cM_isBox l x1) (cwS 1 hts gZ_mayPass_isBox rfl rfl rfl (by decide +kernel) ⟨(Nat.le_of_ble_eq_true rfl), (Nat.le_of_ble_eq_true rfl)⟩) rfl hl.1 rfl (Nat.le_of_ble_eq_true rfl) dX1_mayPass_122 ⟨Nat.zero_le _, Nat.zero_le _⟩ ?_
                  refine lv_if_eq (tgt := 147) hx hb dX1_mayPass_125 (by decide) (fun c125 => ?_) (fun c125 => ?_)
                  · refine lv_iconst (v := 0) hx hb dX1_mayPass_147 (by decide) ?_
                    exact W.zret hx hb hr rfl (fun t ht hW => ⟨by rw [fM_mayPass, if_neg c2, if_neg c8, if_neg c12, if_pos c22, if_pos c54, if_pos c71, if_neg c79, if_neg c87, if_pos c125] <;> rfl, ht⟩) (fun _ h => by cases h) dX1_mayPass_148
                  · refine lv_iload_n hx hb dX1_mayPass_128 rfl (lv_at hl 3 rfl) ?_
                    refine lv_if_ne (tgt := 143) hx hb dX1_mayPass_129 (by decide) (fun c129 => ?_) (fun c129 => ?_)
                    · refine lv_iconst (v := 1) hx hb dX1_mayPass_143 (by decide) ?_
                      refine lv_goto (tgt := 148) hx hb dX1_mayPass_144 (by decide) ?_
                      exact W.zret hx hb hr rfl (fun t ht hW => ⟨by rw [fM_mayPass, if_neg c2, if_neg c8, if_neg c12, if_pos c22, if_pos c54, if_pos c71, if_neg c79, if_neg c87, if_neg c125, if_neg c129] <;> rfl, ht⟩) (fun _ h => by cases h) dX1_mayPass_148
                    · refine lv_iload_n hx hb dX1_mayPass_132 rfl (lv_at hl 1 rfl) ?_
                      refine lv_bipush (v := 8) hx hb dX1_mayPass_133 (by decide) ?_
                      refine lv_isub hx hb dX1_mayPass_135 ?_
                      refine lv_iload_n hx hb dX1_mayPass_136 rfl (lv_at hl 2 rfl) ?_
                      refine kc_S [.int (x1 - (8 : Int32)), .int x2] [] ⟨hx, hb, hml, hown, hts⟩ (cM_widens l (x1 - (8 : Int32)) x2) (cwS 2 hts gZ_mayPass_widens rfl rfl rfl (by decide +kernel) ⟨(Nat.le_of_ble_eq_true rfl), (Nat.le_of_ble_eq_true rfl)⟩) rfl hl.1 rfl (Nat.le_of_ble_eq_true rfl) dX1_mayPass_137 ⟨Nat.zero_le _, Nat.zero_le _⟩ ?_
                      refine lv_if_eq (tgt := 147) hx hb dX1_mayPass_140 (by decide) (fun c140 => ?_) (fun c140 => ?_)
                      · refine lv_iconst (v := 0) hx hb dX1_mayPass_147 (by decide) ?_
                        exact W.zret hx hb hr rfl (fun t ht hW => ⟨by rw [fM_mayPass, if_neg c2, if_neg c8, if_neg c12, if_pos c22, if_pos c54, if_pos c71, if_neg c79, if_neg c87, if_neg c125, if_pos c129, if_pos c140] <;> rfl, ht⟩) (fun _ h => by cases h) dX1_mayPass_148
                      · refine lv_iconst (v := 1) hx hb dX1_mayPass_143 (by decide) ?_
                        refine lv_goto (tgt := 148) hx hb dX1_mayPass_144 (by decide) ?_
                        exact W.zret hx hb hr rfl (fun t ht hW => ⟨by rw [fM_mayPass, if_neg c2, if_neg c8, if_neg c12, if_pos c22, if_pos c54, if_pos c71, if_neg c79, if_neg c87, if_neg c125, if_pos c129, if_neg c140] <;> rfl, ht⟩) (fun _ h => by cases h) dX1_mayPass_148
                · refine lv_iload_n hx hb dX1_mayPass_90 rfl (lv_at hl 3 rfl) ?_
                  refine lv_if_ne (tgt := 115) hx hb dX1_mayPass_91 (by decide) (fun c91 => ?_) (fun c91 => ?_)
                  · refine lv_iconst (v := 1) hx hb dX1_mayPass_115 (by decide) ?_
                    refine lv_goto (tgt := 120) hx hb dX1_mayPass_116 (by decide) ?_
                    exact W.zret hx hb hr rfl (fun t ht hW => ⟨by rw [fM_mayPass, if_neg c2, if_neg c8, if_neg c12, if_pos c22, if_pos c54, if_pos c71, if_neg c79, if_pos c87, if_neg c91] <;> rfl, ht⟩) (fun _ h => by cases h) dX1_mayPass_120
                  · refine lv_iload_n hx hb dX1_mayPass_94 rfl (lv_at hl 2 rfl) ?_
                    refine lv_iconst (v := 2) hx hb dX1_mayPass_95 (by decide) ?_
                    refine lv_icmp_eq (tgt := 115) hx hb dX1_mayPass_96 (by decide) (fun c96 => ?_) (fun c96 => ?_)
                    · refine lv_iconst (v := 1) hx hb dX1_mayPass_115 (by decide) ?_
                      refine lv_goto (tgt := 120) hx hb dX1_mayPass_116 (by decide) ?_
                      exact W.zret hx hb hr rfl (fun t ht hW => ⟨by rw [fM_mayPass, if_neg c2, if_neg c8, if_neg c12, if_pos c22, if_pos c54, if_pos c71, if_neg c79, if_pos c87, if_pos c91, if_pos c96] <;> rfl, ht⟩) (fun _ h => by cases h) dX1_mayPass_120
                    · refine lv_iload_n hx hb dX1_mayPass_99 rfl (lv_at hl 2 rfl) ?_
                      refine lv_iconst (v := 3) hx hb dX1_mayPass_100 (by decide) ?_
                      refine lv_icmp_eq (tgt := 115) hx hb dX1_mayPass_101 (by decide) (fun c101 => ?_) (fun c101 => ?_)
                      · refine lv_iconst (v := 1) hx hb dX1_mayPass_115 (by decide) ?_
                        refine lv_goto (tgt := 120) hx hb dX1_mayPass_116 (by decide) ?_
                        exact W.zret hx hb hr rfl (fun t ht hW => ⟨by rw [fM_mayPass, if_neg c2, if_neg c8, if_neg c12, if_pos c22, if_pos c54, if_pos c71, if_neg c79, if_pos c87, if_pos c91, if_neg c96, if_pos c101] <;> rfl, ht⟩) (fun _ h => by cases h) dX1_mayPass_120
                      · refine lv_iload_n hx hb dX1_mayPass_104 rfl (lv_at hl 2 rfl) ?_
                        refine lv_iconst (v := 5) hx hb dX1_mayPass_105 (by decide) ?_
                        refine lv_icmp_eq (tgt := 115) hx hb dX1_mayPass_106 (by decide) (fun c106 => ?_) (fun c106 => ?_)
                        · refine lv_iconst (v := 1) hx hb dX1_mayPass_115 (by decide) ?_
                          refine lv_goto (tgt := 120) hx hb dX1_mayPass_116 (by decide) ?_
                          exact W.zret hx hb hr rfl (fun t ht hW => ⟨by rw [fM_mayPass, if_neg c2, if_neg c8, if_neg c12, if_pos c22, if_pos c54, if_pos c71, if_neg c79, if_pos c87, if_pos c91, if_neg c96, if_neg c101, if_pos c106] <;> rfl, ht⟩) (fun _ h => by cases h) dX1_mayPass_120
                        · refine lv_iload_n hx hb dX1_mayPass_109 rfl (lv_at hl 2 rfl) ?_
                          refine lv_bipush (v := 6) hx hb dX1_mayPass_110 (by decide) ?_
                          refine lv_icmp_ne (tgt := 119) hx hb dX1_mayPass_112 (by decide) (fun c112 => ?_) (fun c112 => ?_)
                          · refine lv_iconst (v := 0) hx hb dX1_mayPass_119 (by decide) ?_
                            exact W.zret hx hb hr rfl (fun t ht hW => ⟨by rw [fM_mayPass, if_neg c2, if_neg c8, if_neg c12, if_pos c22, if_pos c54, if_pos c71, if_neg c79, if_pos c87, if_pos c91, if_neg c96, if_neg c101, if_neg c106, if_neg c112] <;> rfl, ht⟩) (fun _ h => by cases h) dX1_mayPass_120
                          · refine lv_iconst (v := 1) hx hb dX1_mayPass_115 (by decide) ?_
                            refine lv_goto (tgt := 120) hx hb dX1_mayPass_116 (by decide) ?_
                            exact W.zret hx hb hr rfl (fun t ht hW => ⟨by rw [fM_mayPass, if_neg c2, if_neg c8, if_neg c12, if_pos c22, if_pos c54, if_pos c71, if_neg c79, if_pos c87, if_pos c91, if_neg c96, if_neg c101, if_neg c106, if_pos c112] <;> rfl, ht⟩) (fun _ h => by cases h) dX1_mayPass_120
              · refine lv_iconst (v := 1) hx hb dX1_mayPass_82 (by decide) ?_
                exact W.zret hx hb hr rfl (fun t ht hW => ⟨by rw [fM_mayPass, if_neg c2, if_neg c8, if_neg c12, if_pos c22, if_pos c54, if_pos c71, if_pos c79] <;> rfl, ht⟩) (fun _ h => by cases h) dX1_mayPass_83
            · refine lv_iconst (v := 1) hx hb dX1_mayPass_74 (by decide) ?_
              exact W.zret hx hb hr rfl (fun t ht hW => ⟨by rw [fM_mayPass, if_neg c2, if_neg c8, if_neg c12, if_pos c22, if_pos c54, if_neg c71] <;> rfl, ht⟩) (fun _ h => by cases h) dX1_mayPass_75
          · refine lv_aload_n hx hb dX1_mayPass_57 rfl (lv_at hl 0 rfl) ?_
            refine lv_iload_n hx hb dX1_mayPass_58 rfl (lv_at hl 1 rfl) ?_
            refine lv_bipush (v := 8) hx hb dX1_mayPass_59 (by decide) ?_
            refine lv_iadd hx hb dX1_mayPass_61 ?_
            refine lv_iload_n hx hb dX1_mayPass_62 rfl (lv_at hl 2 rfl) ?_
            refine kc_R [.int (x1 + (8 : Int32)), .int x2] [] ⟨hx, hb, hml, hown, hts⟩ (cM_isBelow l dC dI g0 gp gr gm gl gw gn cI pv nc tr tm tp mt wv nw re nm np kk kn bl pr (x1 + (8 : Int32)) x2 hPV hBL hnc (mpl_in c54) hx2) (cwV 2 hts gZ_mayPass_isBelow rfl rfl rfl (by decide +kernel) ⟨(Nat.le_of_ble_eq_true rfl), (Nat.le_of_ble_eq_true rfl)⟩) hP hK (ci := 1) (q0 := 0) rfl rfl rfl rfl hl.1 rfl (Nat.le_of_ble_eq_true rfl) dX1_mayPass_63 ⟨Nat.zero_le _, Nat.zero_le _⟩ ?_
            exact W.zret hx hb hr (bI_nar (blI bl (x1 + (8 : Int32)) x2)) (fun t ht hW => ⟨by rw [fM_mayPass, if_neg c2, if_neg c8, if_neg c12, if_pos c22, if_neg c54] <;> rfl, ht⟩) (fun _ h => by cases h) dX1_mayPass_66
        · refine lv_iload_n hx hb dX1_mayPass_25 rfl (lv_at hl 2 rfl) ?_
          refine kc_S [.int x2] [] ⟨hx, hb, hml, hown, hts⟩ (cM_isPlain l x2) (cwS 1 hts gZ_mayPass_isPlain rfl rfl rfl (by decide +kernel) ⟨(Nat.le_of_ble_eq_true rfl), (Nat.le_of_ble_eq_true rfl)⟩) rfl hl.1 rfl (Nat.le_of_ble_eq_true rfl) dX1_mayPass_26 ⟨Nat.zero_le _, Nat.zero_le _⟩ ?_
          refine lv_if_eq (tgt := 50) hx hb dX1_mayPass_29 (by decide) (fun c29 => ?_) (fun c29 => ?_)
          · refine lv_iload_n hx hb dX1_mayPass_50 rfl (lv_at hl 1 rfl) ?_
            refine kc_S [.int x1] [] ⟨hx, hb, hml, hown, hts⟩ (cM_isPlain l x1) (cwS 1 hts gZ_mayPass_isPlain rfl rfl rfl (by decide +kernel) ⟨(Nat.le_of_ble_eq_true rfl), (Nat.le_of_ble_eq_true rfl)⟩) rfl hl.1 rfl (Nat.le_of_ble_eq_true rfl) dX1_mayPass_51 ⟨Nat.zero_le _, Nat.zero_le _⟩ ?_
            refine lv_if_eq (tgt := 67) hx hb dX1_mayPass_54 (by decide) (fun c54 => ?_) (fun c54 => ?_)
            · refine lv_iload_n hx hb dX1_mayPass_67 rfl (lv_at hl 2 rfl) ?_
              refine kc_S [.int x2] [] ⟨hx, hb, hml, hown, hts⟩ (cM_isReference l x2) (cwS 1 hts gZ_mayPass_isReference rfl rfl rfl (by decide +kernel) ⟨(Nat.le_of_ble_eq_true rfl), (Nat.le_of_ble_eq_true rfl)⟩) rfl hl.1 rfl (Nat.le_of_ble_eq_true rfl) dX1_mayPass_68 ⟨Nat.zero_le _, Nat.zero_le _⟩ ?_
              refine lv_if_eq (tgt := 76) hx hb dX1_mayPass_71 (by decide) (fun c71 => ?_) (fun c71 => ?_)
              · refine lv_iload_n hx hb dX1_mayPass_76 rfl (lv_at hl 1 rfl) ?_
                refine lv_bipush (v := 7) hx hb dX1_mayPass_77 (by decide) ?_
                refine lv_icmp_ne (tgt := 84) hx hb dX1_mayPass_79 (by decide) (fun c79 => ?_) (fun c79 => ?_)
                · refine lv_iload_n hx hb dX1_mayPass_84 rfl (lv_at hl 1 rfl) ?_
                  refine lv_bipush (v := 8) hx hb dX1_mayPass_85 (by decide) ?_
                  refine lv_icmp_ne (tgt := 121) hx hb dX1_mayPass_87 (by decide) (fun c87 => ?_) (fun c87 => ?_)
                  · refine lv_iload_n hx hb dX1_mayPass_121 rfl (lv_at hl 1 rfl) ?_
                    refine kc_S [.int x1] [] ⟨hx, hb, hml, hown, hts⟩ (cM_isBox l x1) (cwS 1 hts gZ_mayPass_isBox rfl rfl rfl (by decide +kernel) ⟨(Nat.le_of_ble_eq_true rfl), (Nat.le_of_ble_eq_true rfl)⟩) rfl hl.1 rfl (Nat.le_of_ble_eq_true rfl) dX1_mayPass_122 ⟨Nat.zero_le _, Nat.zero_le _⟩ ?_
                    refine lv_if_eq (tgt := 147) hx hb dX1_mayPass_125 (by decide) (fun c125 => ?_) (fun c125 => ?_)
                    · refine lv_iconst (v := 0) hx hb dX1_mayPass_147 (by decide) ?_
                      exact W.zret hx hb hr rfl (fun t ht hW => ⟨by rw [fM_mayPass, if_neg c2, if_neg c8, if_neg c12, if_neg c22, if_pos c29, if_pos c54, if_pos c71, if_neg c79, if_neg c87, if_pos c125] <;> rfl, ht⟩) (fun _ h => by cases h) dX1_mayPass_148
                    · refine lv_iload_n hx hb dX1_mayPass_128 rfl (lv_at hl 3 rfl) ?_
                      refine lv_if_ne (tgt := 143) hx hb dX1_mayPass_129 (by decide) (fun c129 => ?_) (fun c129 => ?_)
                      · refine lv_iconst (v := 1) hx hb dX1_mayPass_143 (by decide) ?_
                        refine lv_goto (tgt := 148) hx hb dX1_mayPass_144 (by decide) ?_
                        exact W.zret hx hb hr rfl (fun t ht hW => ⟨by rw [fM_mayPass, if_neg c2, if_neg c8, if_neg c12, if_neg c22, if_pos c29, if_pos c54, if_pos c71, if_neg c79, if_neg c87, if_neg c125, if_neg c129] <;> rfl, ht⟩) (fun _ h => by cases h) dX1_mayPass_148
                      · refine lv_iload_n hx hb dX1_mayPass_132 rfl (lv_at hl 1 rfl) ?_
                        refine lv_bipush (v := 8) hx hb dX1_mayPass_133 (by decide) ?_
                        refine lv_isub hx hb dX1_mayPass_135 ?_
                        refine lv_iload_n hx hb dX1_mayPass_136 rfl (lv_at hl 2 rfl) ?_
                        refine kc_S [.int (x1 - (8 : Int32)), .int x2] [] ⟨hx, hb, hml, hown, hts⟩ (cM_widens l (x1 - (8 : Int32)) x2) (cwS 2 hts gZ_mayPass_widens rfl rfl rfl (by decide +kernel) ⟨(Nat.le_of_ble_eq_true rfl), (Nat.le_of_ble_eq_true rfl)⟩) rfl hl.1 rfl (Nat.le_of_ble_eq_true rfl) dX1_mayPass_137 ⟨Nat.zero_le _, Nat.zero_le _⟩ ?_
                        refine lv_if_eq (tgt := 147) hx hb dX1_mayPass_140 (by decide) (fun c140 => ?_) (fun c140 => ?_)
                        · refine lv_iconst (v := 0) hx hb dX1_mayPass_147 (by decide) ?_
                          exact W.zret hx hb hr rfl (fun t ht hW => ⟨by rw [fM_mayPass, if_neg c2, if_neg c8, if_neg c12, if_neg c22, if_pos c29, if_pos c54, if_pos c71, if_neg c79, if_neg c87, if_neg c125, if_pos c129, if_pos c140] <;> rfl, ht⟩) (fun _ h => by cases h) dX1_mayPass_148
                        · refine lv_iconst (v := 1) hx hb dX1_mayPass_143 (by decide) ?_
                          refine lv_goto (tgt := 148) hx hb dX1_mayPass_144 (by decide) ?_
                          exact W.zret hx hb hr rfl (fun t ht hW => ⟨by rw [fM_mayPass, if_neg c2, if_neg c8, if_neg c12, if_neg c22, if_pos c29, if_pos c54, if_pos c71, if_neg c79, if_neg c87, if_neg c125, if_pos c129, if_neg c140] <;> rfl, ht⟩) (fun _ h => by cases h) dX1_mayPass_148
                  · refine lv_iload_n hx hb dX1_mayPass_90 rfl (lv_at hl 3 rfl) ?_
                    refine lv_if_ne (tgt := 115) hx hb dX1_mayPass_91 (by decide) (fun c91 => ?_) (fun c91 => ?_)
                    · refine lv_iconst (v := 1) hx hb dX1_mayPass_115 (by decide) ?_
                      refine lv_goto (tgt := 120) hx hb dX1_mayPass_116 (by decide) ?_
                      exact W.zret hx hb hr rfl (fun t ht hW => ⟨by rw [fM_mayPass, if_neg c2, if_neg c8, if_neg c12, if_neg c22, if_pos c29, if_pos c54, if_pos c71, if_neg c79, if_pos c87, if_neg c91] <;> rfl, ht⟩) (fun _ h => by cases h) dX1_mayPass_120
                    · refine lv_iload_n hx hb dX1_mayPass_94 rfl (lv_at hl 2 rfl) ?_
                      refine lv_iconst (v := 2) hx hb dX1_mayPass_95 (by decide) ?_
                      refine lv_icmp_eq (tgt := 115) hx hb dX1_mayPass_96 (by decide) (fun c96 => ?_) (fun c96 => ?_)
                      · refine lv_iconst (v := 1) hx hb dX1_mayPass_115 (by decide) ?_
                        refine lv_goto (tgt := 120) hx hb dX1_mayPass_116 (by decide) ?_
                        exact W.zret hx hb hr rfl (fun t ht hW => ⟨by rw [fM_mayPass, if_neg c2, if_neg c8, if_neg c12, if_neg c22, if_pos c29, if_pos c54, if_pos c71, if_neg c79, if_pos c87, if_pos c91, if_pos c96] <;> rfl, ht⟩) (fun _ h => by cases h) dX1_mayPass_120
                      · refine lv_iload_n hx hb dX1_mayPass_99 rfl (lv_at hl 2 rfl) ?_
                        refine lv_iconst (v := 3) hx hb dX1_mayPass_100 (by decide) ?_
                        refine lv_icmp_eq (tgt := 115) hx hb dX1_mayPass_101 (by decide) (fun c101 => ?_) (fun c101 => ?_)
                        · refine lv_iconst (v := 1) hx hb dX1_mayPass_115 (by decide) ?_
                          refine lv_goto (tgt := 120) hx hb dX1_mayPass_116 (by decide) ?_
                          exact W.zret hx hb hr rfl (fun t ht hW => ⟨by rw [fM_mayPass, if_neg c2, if_neg c8, if_neg c12, if_neg c22, if_pos c29, if_pos c54, if_pos c71, if_neg c79, if_pos c87, if_pos c91, if_neg c96, if_pos c101] <;> rfl, ht⟩) (fun _ h => by cases h) dX1_mayPass_120
                        · refine lv_iload_n hx hb dX1_mayPass_104 rfl (lv_at hl 2 rfl) ?_
                          refine lv_iconst (v := 5) hx hb dX1_mayPass_105 (by decide) ?_
                          refine lv_icmp_eq (tgt := 115) hx hb dX1_mayPass_106 (by decide) (fun c106 => ?_) (fun c106 => ?_)
                          · refine lv_iconst (v := 1) hx hb dX1_mayPass_115 (by decide) ?_
                            refine lv_goto (tgt := 120) hx hb dX1_mayPass_116 (by decide) ?_
                            exact W.zret hx hb hr rfl (fun t ht hW => ⟨by rw [fM_mayPass, if_neg c2, if_neg c8, if_neg c12, if_neg c22, if_pos c29, if_pos c54, if_pos c71, if_neg c79, if_pos c87, if_pos c91, if_neg c96, if_neg c101, if_pos c106] <;> rfl, ht⟩) (fun _ h => by cases h) dX1_mayPass_120
                          · refine lv_iload_n hx hb dX1_mayPass_109 rfl (lv_at hl 2 rfl) ?_
                            refine lv_bipush (v := 6) hx hb dX1_mayPass_110 (by decide) ?_
                            refine lv_icmp_ne (tgt := 119) hx hb dX1_mayPass_112 (by decide) (fun c112 => ?_) (fun c112 => ?_)
                            · refine lv_iconst (v := 0) hx hb dX1_mayPass_119 (by decide) ?_
                              exact W.zret hx hb hr rfl (fun t ht hW => ⟨by rw [fM_mayPass, if_neg c2, if_neg c8, if_neg c12, if_neg c22, if_pos c29, if_pos c54, if_pos c71, if_neg c79, if_pos c87, if_pos c91, if_neg c96, if_neg c101, if_neg c106, if_neg c112] <;> rfl, ht⟩) (fun _ h => by cases h) dX1_mayPass_120
                            · refine lv_iconst (v := 1) hx hb dX1_mayPass_115 (by decide) ?_
                              refine lv_goto (tgt := 120) hx hb dX1_mayPass_116 (by decide) ?_
                              exact W.zret hx hb hr rfl (fun t ht hW => ⟨by rw [fM_mayPass, if_neg c2, if_neg c8, if_neg c12, if_neg c22, if_pos c29, if_pos c54, if_pos c71, if_neg c79, if_pos c87, if_pos c91, if_neg c96, if_neg c101, if_neg c106, if_pos c112] <;> rfl, ht⟩) (fun _ h => by cases h) dX1_mayPass_120
                · refine lv_iconst (v := 1) hx hb dX1_mayPass_82 (by decide) ?_
                  exact W.zret hx hb hr rfl (fun t ht hW => ⟨by rw [fM_mayPass, if_neg c2, if_neg c8, if_neg c12, if_neg c22, if_pos c29, if_pos c54, if_pos c71, if_pos c79] <;> rfl, ht⟩) (fun _ h => by cases h) dX1_mayPass_83
              · refine lv_iconst (v := 1) hx hb dX1_mayPass_74 (by decide) ?_
                exact W.zret hx hb hr rfl (fun t ht hW => ⟨by rw [fM_mayPass, if_neg c2, if_neg c8, if_neg c12, if_neg c22, if_pos c29, if_pos c54, if_neg c71] <;> rfl, ht⟩) (fun _ h => by cases h) dX1_mayPass_75
            · refine lv_aload_n hx hb dX1_mayPass_57 rfl (lv_at hl 0 rfl) ?_
              refine lv_iload_n hx hb dX1_mayPass_58 rfl (lv_at hl 1 rfl) ?_
              refine lv_bipush (v := 8) hx hb dX1_mayPass_59 (by decide) ?_
              refine lv_iadd hx hb dX1_mayPass_61 ?_
              refine lv_iload_n hx hb dX1_mayPass_62 rfl (lv_at hl 2 rfl) ?_
              refine kc_R [.int (x1 + (8 : Int32)), .int x2] [] ⟨hx, hb, hml, hown, hts⟩ (cM_isBelow l dC dI g0 gp gr gm gl gw gn cI pv nc tr tm tp mt wv nw re nm np kk kn bl pr (x1 + (8 : Int32)) x2 hPV hBL hnc (mpl_in c54) hx2) (cwV 2 hts gZ_mayPass_isBelow rfl rfl rfl (by decide +kernel) ⟨(Nat.le_of_ble_eq_true rfl), (Nat.le_of_ble_eq_true rfl)⟩) hP hK (ci := 1) (q0 := 0) rfl rfl rfl rfl hl.1 rfl (Nat.le_of_ble_eq_true rfl) dX1_mayPass_63 ⟨Nat.zero_le _, Nat.zero_le _⟩ ?_
              exact W.zret hx hb hr (bI_nar (blI bl (x1 + (8 : Int32)) x2)) (fun t ht hW => ⟨by rw [fM_mayPass, if_neg c2, if_neg c8, if_neg c12, if_neg c22, if_pos c29, if_neg c54] <;> rfl, ht⟩) (fun _ h => by cases h) dX1_mayPass_66
          · refine lv_iload_n hx hb dX1_mayPass_32 rfl (lv_at hl 3 rfl) ?_
            refine lv_if_ne (tgt := 44) hx hb dX1_mayPass_33 (by decide) (fun c33 => ?_) (fun c33 => ?_)
            · refine lv_iconst (v := 1) hx hb dX1_mayPass_44 (by decide) ?_
              refine lv_goto (tgt := 49) hx hb dX1_mayPass_45 (by decide) ?_
              exact W.zret hx hb hr rfl (fun t ht hW => ⟨by rw [fM_mayPass, if_neg c2, if_neg c8, if_neg c12, if_neg c22, if_neg c29, if_neg c33] <;> rfl, ht⟩) (fun _ h => by cases h) dX1_mayPass_49
            · refine lv_iload_n hx hb dX1_mayPass_36 rfl (lv_at hl 1 rfl) ?_
              refine lv_iload_n hx hb dX1_mayPass_37 rfl (lv_at hl 2 rfl) ?_
              refine kc_S [.int x1, .int x2] [] ⟨hx, hb, hml, hown, hts⟩ (cM_widens l x1 x2) (cwS 2 hts gZ_mayPass_widens rfl rfl rfl (by decide +kernel) ⟨(Nat.le_of_ble_eq_true rfl), (Nat.le_of_ble_eq_true rfl)⟩) rfl hl.1 rfl (Nat.le_of_ble_eq_true rfl) dX1_mayPass_38 ⟨Nat.zero_le _, Nat.zero_le _⟩ ?_
              refine lv_if_eq (tgt := 48) hx hb dX1_mayPass_41 (by decide) (fun c41 => ?_) (fun c41 => ?_)
              · refine lv_iconst (v := 0) hx hb dX1_mayPass_48 (by decide) ?_
                exact W.zret hx hb hr rfl (fun t ht hW => ⟨by rw [fM_mayPass, if_neg c2, if_neg c8, if_neg c12, if_neg c22, if_neg c29, if_pos c33, if_pos c41] <;> rfl, ht⟩) (fun _ h => by cases h) dX1_mayPass_49
              · refine lv_iconst (v := 1) hx hb dX1_mayPass_44 (by decide) ?_
                refine lv_goto (tgt := 49) hx hb dX1_mayPass_45 (by decide) ?_
                exact W.zret hx hb hr rfl (fun t ht hW => ⟨by rw [fM_mayPass, if_neg c2, if_neg c8, if_neg c12, if_neg c22, if_neg c29, if_pos c33, if_neg c41] <;> rfl, ht⟩) (fun _ h => by cases h) dX1_mayPass_49
      · refine lv_iload hx hb dX1_mayPass_15 (lv_at hl 4 rfl) ?_
        exact W.zret hx hb hr (bI_nar x4) (fun t ht hW => ⟨by rw [fM_mayPass, if_neg c2, if_neg c8, if_pos c12] <;> rfl, ht⟩) (fun _ h => by cases h) dX1_mayPass_17
  · refine lv_iconst (v := 1) hx hb dX1_mayPass_5 (by decide) ?_
    exact W.zret hx hb hr rfl (fun t ht hW => ⟨by rw [fM_mayPass, if_pos c2] <;> rfl, ht⟩) (fun _ h => by cases h) dX1_mayPass_6
def fM_may (nc : Nat) (bl : Nat → Nat → Bool) (x1 : Int32) (x2 : Int32) (x3 : Bool) (x4 : Bool) : Bool := if (bI (fM_isKind nc x1)) = 0 then false else if (bI (fM_isKind nc x2)) = 0 then false else if (bI x4) = 0 then if x1 = 0 then false else if x2 = 0 then false else (fM_mayPass bl x1 x2 x3 x4) else (fM_mayPass bl x1 x2 x3 x4)
set_option maxHeartbeats 4000000 in
set_option maxRecDepth 100000 in
theorem cM_may (l : Launch) (dC : Nat → ClassId) (dI : Nat → Nat → Nat) (g0 gp gr gm gl gw gn : Nat) (cI : ClassId) (pv : Nat → Int32) (nc : Nat) (tr : Nat → Int32) (tm : Nat → Int32) (tp : Nat → Int32) (mt : Nat) (wv : Nat → Int32) (nw : Nat) (re : Int32) (nm : Nat) (np : Nat → Int32) (kk : Int32) (kn : Int64) (bl : Nat → Nat → Bool) (pr : Nat → Nat) (x1 : Int32) (x2 : Int32) (x3 : Bool) (x4 : Bool) (hPV : kPV pv pr nc) (hBL : kBL bl pr nc) (hnc : nc ≤ 12) : Met l yX1_may wsZ1_may ({ frames := 3, cells := 0, slots := 0, locals := 67 }) (kPr (dC, dI) vwCl [(cI, .int)] (mW g0 gp gr gm gl gw gn cI pv nc tr tm tp mt wv nw re nm np kk kn) [.ref g0, .int x1, .int x2, .int (bI x3), .int (bI x4)]) (k2_QcV (.int (bI (fM_may nc bl x1 x2 x3 x4)))) 0 0 kNo := by
  refine Met.ofW (cc := cX1_may) (maxL := 5) (ret := (some .boolean)) (by decide) rfl ?_
  intro p e s m args below meth c s₁ B hml hv
  obtain ⟨rfl, hP, hK⟩ := hv
  have hx := B.exec
  have hb := B.bytes
  have hr := B.returns
  have hts := atoms_spec (ws := wsZ1_may) B.pre
  have hown : s.vm.findClass RX1 = some m.cls := findClass_of_methodNamed B.named
  have hlocks := B.notSynchronized
  have hl := lv_entry ([.ref g0, .int x1, .int x2, .int (bI x3), .int (bI x4)]) (n := 5) (Nat.le_of_ble_eq_true rfl)
  rw [lg_entry_eq]
  generalize (lg_sl ([.ref g0, .int x1, .int x2, .int (bI x3), .int (bI x4)]) ++ List.replicate (5 - (lg_sl ([.ref g0, .int x1, .int x2, .int (bI x3), .int (bI x4)])).length) Slot.unset).toArray = ls at hl ⊢
  have hl : lv_has ls 5 [(0, .ref g0), (1, .int x1), (2, .int x2), (3, .int (bI x3)), (4, .int (bI x4))] := hl
  refine lv_aload_n hx hb dX1_may_0 rfl (lv_at hl 0 rfl) ?_
  refine lv_iload_n hx hb dX1_may_1 rfl (lv_at hl 1 rfl) ?_
  refine kc_R [.int x1] [] ⟨hx, hb, hml, hown, hts⟩ (cM_isKind l dC dI g0 gp gr gm gl gw gn cI pv nc tr tm tp mt wv nw re nm np kk kn x1) (cwV 1 hts gZ_may_isKind rfl rfl rfl (by decide +kernel) ⟨(Nat.le_of_ble_eq_true rfl), (Nat.le_of_ble_eq_true rfl)⟩) hP hK (ci := 1) (q0 := 0) rfl rfl rfl rfl hl.1 rfl (Nat.le_of_ble_eq_true rfl) dX1_may_2 ⟨Nat.zero_le _, Nat.zero_le _⟩ ?_
  refine lv_if_eq (tgt := 29) hx hb dX1_may_5 (by decide) (fun c5 => ?_) (fun c5 => ?_)
  · refine lv_iconst (v := 0) hx hb dX1_may_29 (by decide) ?_
    exact W.zret hx hb hr rfl (fun t ht hW => ⟨by rw [fM_may, if_pos c5] <;> rfl, ht⟩) (fun _ h => by cases h) dX1_may_30
  · refine lv_aload_n hx hb dX1_may_8 rfl (lv_at hl 0 rfl) ?_
    refine lv_iload_n hx hb dX1_may_9 rfl (lv_at hl 2 rfl) ?_
    refine kc_R [.int x2] [] ⟨hx, hb, hml, hown, hts⟩ (cM_isKind l dC dI g0 gp gr gm gl gw gn cI pv nc tr tm tp mt wv nw re nm np kk kn x2) (cwV 1 hts gZ_may_isKind rfl rfl rfl (by decide +kernel) ⟨(Nat.le_of_ble_eq_true rfl), (Nat.le_of_ble_eq_true rfl)⟩) hP hK (ci := 1) (q0 := 0) rfl rfl rfl rfl hl.1 rfl (Nat.le_of_ble_eq_true rfl) dX1_may_10 ⟨Nat.zero_le _, Nat.zero_le _⟩ ?_
    refine lv_if_eq (tgt := 29) hx hb dX1_may_13 (by decide) (fun c13 => ?_) (fun c13 => ?_)
    · refine lv_iconst (v := 0) hx hb dX1_may_29 (by decide) ?_
      exact W.zret hx hb hr rfl (fun t ht hW => ⟨by rw [fM_may, if_neg c5, if_pos c13] <;> rfl, ht⟩) (fun _ h => by cases h) dX1_may_30
    · refine lv_iload hx hb dX1_may_16 (lv_at hl 4 rfl) ?_
      refine lv_if_ne (tgt := 31) hx hb dX1_may_18 (by decide) (fun c18 => ?_) (fun c18 => ?_)
      · refine lv_aload_n hx hb dX1_may_31 rfl (lv_at hl 0 rfl) ?_
        refine lv_iload_n hx hb dX1_may_32 rfl (lv_at hl 1 rfl) ?_
        refine lv_iload_n hx hb dX1_may_33 rfl (lv_at hl 2 rfl) ?_
        refine lv_iload_n hx hb dX1_may_34 rfl (lv_at hl 3 rfl) ?_
        refine lv_iload hx hb dX1_may_35 (lv_at hl 4 rfl) ?_
        refine kc_R [.int x1, .int x2, .int (bI x3), .int (bI x4)] [] ⟨hx, hb, hml, hown, hts⟩ (cM_mayPass l dC dI g0 gp gr gm gl gw gn cI pv nc tr tm tp mt wv nw re nm np kk kn bl pr x1 x2 x3 x4 hPV hBL hnc (vp_in_mono (mK_in hnc c13) (by omega))) (cwV 4 hts gZ_may_mayPass rfl rfl rfl (by decide +kernel) ⟨(Nat.le_of_ble_eq_true rfl), (Nat.le_of_ble_eq_true rfl)⟩) hP hK (ci := 1) (q0 := 0) rfl rfl rfl rfl hl.1 rfl (Nat.le_of_ble_eq_true rfl) dX1_may_37 ⟨Nat.zero_le _, Nat.zero_le _⟩ ?_
        exact W.zret hx hb hr (bI_nar (fM_mayPass bl x1 x2 x3 x4)) (fun t ht hW => ⟨by rw [fM_may, if_neg c5, if_neg c13, if_neg c18] <;> rfl, ht⟩) (fun _ h => by cases h) dX1_may_40
      · refine lv_iload_n hx hb dX1_may_21 rfl (lv_at hl 1 rfl) ?_
        refine lv_if_eq (tgt := 29) hx hb dX1_may_22 (by decide) (fun c22 => ?_) (fun c22 => ?_)
        · refine lv_iconst (v := 0) hx hb dX1_may_29 (by decide) ?_
          exact W.zret hx hb hr rfl (fun t ht hW => ⟨by rw [fM_may, if_neg c5, if_neg c13, if_pos c18, if_pos c22] <;> rfl, ht⟩) (fun _ h => by cases h) dX1_may_30
        · refine lv_iload_n hx hb dX1_may_25 rfl (lv_at hl 2 rfl) ?_
          refine lv_if_ne (tgt := 31) hx hb dX1_may_26 (by decide) (fun c26 => ?_) (fun c26 => ?_)
          · refine lv_aload_n hx hb dX1_may_31 rfl (lv_at hl 0 rfl) ?_
            refine lv_iload_n hx hb dX1_may_32 rfl (lv_at hl 1 rfl) ?_
            refine lv_iload_n hx hb dX1_may_33 rfl (lv_at hl 2 rfl) ?_
            refine lv_iload_n hx hb dX1_may_34 rfl (lv_at hl 3 rfl) ?_
            refine lv_iload hx hb dX1_may_35 (lv_at hl 4 rfl) ?_
            refine kc_R [.int x1, .int x2, .int (bI x3), .int (bI x4)] [] ⟨hx, hb, hml, hown, hts⟩ (cM_mayPass l dC dI g0 gp gr gm gl gw gn cI pv nc tr tm tp mt wv nw re nm np kk kn bl pr x1 x2 x3 x4 hPV hBL hnc (vp_in_mono (mK_in hnc c13) (by omega))) (cwV 4 hts gZ_may_mayPass rfl rfl rfl (by decide +kernel) ⟨(Nat.le_of_ble_eq_true rfl), (Nat.le_of_ble_eq_true rfl)⟩) hP hK (ci := 1) (q0 := 0) rfl rfl rfl rfl hl.1 rfl (Nat.le_of_ble_eq_true rfl) dX1_may_37 ⟨Nat.zero_le _, Nat.zero_le _⟩ ?_
            exact W.zret hx hb hr (bI_nar (fM_mayPass bl x1 x2 x3 x4)) (fun t ht hW => ⟨by rw [fM_may, if_neg c5, if_neg c13, if_pos c18, if_neg c22, if_neg c26] <;> rfl, ht⟩) (fun _ h => by cases h) dX1_may_40
          · refine lv_iconst (v := 0) hx hb dX1_may_29 (by decide) ?_
            exact W.zret hx hb hr rfl (fun t ht hW => ⟨by rw [fM_may, if_neg c5, if_neg c13, if_pos c18, if_neg c22, if_pos c26] <;> rfl, ht⟩) (fun _ h => by cases h) dX1_may_30
def fM_below (nc : Nat) (bl : Nat → Nat → Bool) (x1 : Int32) (x2 : Int32) : Bool := if (bI (fM_isKind nc x1)) = 0 then false else if (bI (fM_isKind nc x2)) = 0 then false else if (bI (blI bl x1 x2)) = 0 then false else true
set_option maxHeartbeats 4000000 in
set_option maxRecDepth 100000 in
theorem cM_below (l : Launch) (dC : Nat → ClassId) (dI : Nat → Nat → Nat) (g0 gp gr gm gl gw gn : Nat) (cI : ClassId) (pv : Nat → Int32) (nc : Nat) (tr : Nat → Int32) (tm : Nat → Int32) (tp : Nat → Int32) (mt : Nat) (wv : Nat → Int32) (nw : Nat) (re : Int32) (nm : Nat) (np : Nat → Int32) (kk : Int32) (kn : Int64) (bl : Nat → Nat → Bool) (pr : Nat → Nat) (x1 : Int32) (x2 : Int32) (hPV : kPV pv pr nc) (hBL : kBL bl pr nc) (hnc : nc ≤ 12) : Met l yX1_below wsZ1_below ({ frames := 2, cells := 0, slots := 0, locals := 43 }) (kPr (dC, dI) vwCl [(cI, .int)] (mW g0 gp gr gm gl gw gn cI pv nc tr tm tp mt wv nw re nm np kk kn) [.ref g0, .int x1, .int x2]) (k2_QcV (.int (bI (fM_below nc bl x1 x2)))) 0 0 kNo := by
  refine Met.ofW (cc := cX1_below) (maxL := 3) (ret := (some .boolean)) (by decide) rfl ?_
  intro p e s m args below meth c s₁ B hml hv
  obtain ⟨rfl, hP, hK⟩ := hv
  have hx := B.exec
  have hb := B.bytes
  have hr := B.returns
  have hts := atoms_spec (ws := wsZ1_below) B.pre
  have hown : s.vm.findClass RX1 = some m.cls := findClass_of_methodNamed B.named
  have hlocks := B.notSynchronized
  have hl := lv_entry ([.ref g0, .int x1, .int x2]) (n := 3) (Nat.le_of_ble_eq_true rfl)
  rw [lg_entry_eq]
  generalize (lg_sl ([.ref g0, .int x1, .int x2]) ++ List.replicate (3 - (lg_sl ([.ref g0, .int x1, .int x2])).length) Slot.unset).toArray = ls at hl ⊢
  have hl : lv_has ls 3 [(0, .ref g0), (1, .int x1), (2, .int x2)] := hl
  refine lv_aload_n hx hb dX1_below_0 rfl (lv_at hl 0 rfl) ?_
  refine lv_iload_n hx hb dX1_below_1 rfl (lv_at hl 1 rfl) ?_
  refine kc_R [.int x1] [] ⟨hx, hb, hml, hown, hts⟩ (cM_isKind l dC dI g0 gp gr gm gl gw gn cI pv nc tr tm tp mt wv nw re nm np kk kn x1) (cwV 1 hts gZ_below_isKind rfl rfl rfl (by decide +kernel) ⟨(Nat.le_of_ble_eq_true rfl), (Nat.le_of_ble_eq_true rfl)⟩) hP hK (ci := 1) (q0 := 0) rfl rfl rfl rfl hl.1 rfl (Nat.le_of_ble_eq_true rfl) dX1_below_2 ⟨Nat.zero_le _, Nat.zero_le _⟩ ?_
  refine lv_if_eq (tgt := 29) hx hb dX1_below_5 (by decide) (fun c5 => ?_) (fun c5 => ?_)
  · refine lv_iconst (v := 0) hx hb dX1_below_29 (by decide) ?_
    exact W.zret hx hb hr rfl (fun t ht hW => ⟨by rw [fM_below, if_pos c5] <;> rfl, ht⟩) (fun _ h => by cases h) dX1_below_30
  · refine lv_aload_n hx hb dX1_below_8 rfl (lv_at hl 0 rfl) ?_
    refine lv_iload_n hx hb dX1_below_9 rfl (lv_at hl 2 rfl) ?_
    refine kc_R [.int x2] [] ⟨hx, hb, hml, hown, hts⟩ (cM_isKind l dC dI g0 gp gr gm gl gw gn cI pv nc tr tm tp mt wv nw re nm np kk kn x2) (cwV 1 hts gZ_below_isKind rfl rfl rfl (by decide +kernel) ⟨(Nat.le_of_ble_eq_true rfl), (Nat.le_of_ble_eq_true rfl)⟩) hP hK (ci := 1) (q0 := 0) rfl rfl rfl rfl hl.1 rfl (Nat.le_of_ble_eq_true rfl) dX1_below_10 ⟨Nat.zero_le _, Nat.zero_le _⟩ ?_
    refine lv_if_eq (tgt := 29) hx hb dX1_below_13 (by decide) (fun c13 => ?_) (fun c13 => ?_)
    · refine lv_iconst (v := 0) hx hb dX1_below_29 (by decide) ?_
      exact W.zret hx hb hr rfl (fun t ht hW => ⟨by rw [fM_below, if_neg c5, if_pos c13] <;> rfl, ht⟩) (fun _ h => by cases h) dX1_below_30
    · refine lv_aload_n hx hb dX1_below_16 rfl (lv_at hl 0 rfl) ?_
      refine lv_iload_n hx hb dX1_below_17 rfl (lv_at hl 1 rfl) ?_
      refine lv_iload_n hx hb dX1_below_18 rfl (lv_at hl 2 rfl) ?_
      refine kc_R [.int x1, .int x2] [] ⟨hx, hb, hml, hown, hts⟩ (cM_isBelow l dC dI g0 gp gr gm gl gw gn cI pv nc tr tm tp mt wv nw re nm np kk kn bl pr x1 x2 hPV hBL hnc (mK_in hnc c5) (vp_in_mono (mK_in hnc c13) (by omega))) (cwV 2 hts gZ_below_isBelow rfl rfl rfl (by decide +kernel) ⟨(Nat.le_of_ble_eq_true rfl), (Nat.le_of_ble_eq_true rfl)⟩) hP hK (ci := 1) (q0 := 0) rfl rfl rfl rfl hl.1 rfl (Nat.le_of_ble_eq_true rfl) dX1_below_19 ⟨Nat.zero_le _, Nat.zero_le _⟩ ?_
      refine lv_if_eq (tgt := 29) hx hb dX1_below_22 (by decide) (fun c22 => ?_) (fun c22 => ?_)
      · refine lv_iconst (v := 0) hx hb dX1_below_29 (by decide) ?_
        exact W.zret hx hb hr rfl (fun t ht hW => ⟨by rw [fM_below, if_neg c5, if_neg c13, if_pos c22] <;> rfl, ht⟩) (fun _ h => by cases h) dX1_below_30
      · refine lv_iconst (v := 1) hx hb dX1_below_25 (by decide) ?_
        refine lv_goto (tgt := 30) hx hb dX1_below_26 (by decide) ?_
        exact W.zret hx hb hr rfl (fun t ht hW => ⟨by rw [fM_below, if_neg c5, if_neg c13, if_neg c22] <;> rfl, ht⟩) (fun _ h => by cases h) dX1_below_30
