theorem kK_same {D : va_G} {cl : List vw_C} {tys : List (ClassId × FieldType)} {s : State} {c1 c2 : ClassId} {ty : FieldType} {a b : Nat} (hK : va_K D cl tys s) (ha : tys[a]? = some (c1, .int) ∧ ty = .int ∨ tys[a]? = some (c1, .long) ∧ ty = .long) (hb : tys[b]? = some (c2, ty)) : c1 = c2 := by
  rcases ha with ⟨ha, rfl⟩ | ⟨ha, rfl⟩
  · exact Option.some.inj ((hK.2 a _ ha).2.symm.trans (hK.2 b _ hb).2)
  · exact Option.some.inj ((hK.2 a _ ha).2.symm.trans (hK.2 b _ hb).2)
def iA (k : Nat) : Nat → Int32 := fun j => if j < k then fX_firstAbove (nI j) else 0
theorem iA_0 : iA 0 = fun _ => 0 := by
  funext j
  unfold iA
  rw [if_neg (by omega)]
theorem iA_s {k : Nat} (h : k < 2 ^ 31) : upd (iA k) (nI k).toNatClampNeg (fX_firstAbove (nI k)) = iA (k + 1) := by
  rw [nI_clamp h]
  funext j
  unfold upd iA
  by_cases c : j = k
  · rw [if_pos c, if_pos (by omega), c]
  · rw [if_neg c]
    by_cases d : j < k
    · rw [if_pos d, if_pos (by omega)]
    · rw [if_neg d, if_neg (by omega)]
theorem iA_bits : ∀ i, i < 20 → ∀ j, j < 32 → bt (fX_firstAbove (nI i)) j = bl0 i j := by decide +kernel

set_option maxHeartbeats 1000000 in
set_option maxRecDepth 100000 in
theorem cX_init (l : Launch) (dC : Nat → ClassId) (dI : Nat → Nat → Nat) (cI cJ : ClassId) (h0 sz : Nat) : Met l yX0_init wsX0_init ({ frames := 2, cells := 3, slots := 352, locals := 41 }) (va_Pc [.ref h0] (fun U => U.heap.size = sz ∧ va_P (dC, dI) vwCl [(h0, .inr (0, [.null, .int 0, .null, .int 0, .null, .int 0, .int 0, .long 0]))] U.heap ∧ va_K (dC, dI) vwCl [(cI, .int), (cJ, .long)] U ∧ va_D (fun _ => True) [(h0, .inr (0, [.null, .int 0, .null, .int 0, .null, .int 0, .int 0, .long 0]))])) (va_Qv (fun _ : Nat × Nat × Nat => True) (fun u t => va_P (dC, dI) vwCl (xW h0 u.1 u.2.1 u.2.2 cI cJ (iA 20) 20 (fun _ => 0) 0 (fun _ => 0) 0 0 0) t.heap ∧ va_D (va_A [(h0, .inr (0, [.null, .int 0, .null, .int 0, .null, .int 0, .int 0, .long 0]))] sz) (xW h0 u.1 u.2.1 u.2.2 cI cJ (iA 20) 20 (fun _ => 0) 0 (fun _ => 0) 0 0 0)) (va_A [(h0, .inr (0, [.null, .int 0, .null, .int 0, .null, .int 0, .int 0, .long 0]))] sz)) 3 352 (va_A [(h0, .inr (0, [.null, .int 0, .null, .int 0, .null, .int 0, .int 0, .long 0]))] sz) := by
  refine Met.ofW (cc := cX0_init) (maxL := 2) (ret := none) (by decide) rfl ?_
  intro p e s m args below meth c s₁ B hml hv
  obtain ⟨rfl, hsz, hP, hK, hD0⟩ := hv
  have hx := B.exec
  have hb := B.bytes
  have hr := B.returns
  have hts := atoms_spec (ws := wsX0_init) B.pre
  have hown : s.vm.findClass RX0 = some m.cls := findClass_of_methodNamed B.named
  have hlocks := B.notSynchronized
  have hinm : meth.name = "<init>" := (name_of_methodNamed B.named B.method).1
  have hin : ∀ w ∈ u_ws RX0 TX0 8, w ∈ wsX0_init := by decide +kernel
  subst hsz
  have hD := hD0.self (sz := s.heap.size)
  generalize hAe : (va_A [(h0, .inr (0, [.null, .int 0, .null, .int 0, .null, .int 0, .int 0, .long 0]))] s.heap.size) = A at hD ⊢
  have hA : ∀ q : Nat, s.heap.size ≤ q → A q := fun q h => by rw [← hAe]; exact Or.inr h
  have hS : va_S A s.heap s.heap [] := va_S.rf
  have hl := lv_entry ([.ref h0]) (n := 2) (Nat.le_of_ble_eq_true rfl)
  rw [lg_entry_eq]
  generalize (lg_sl ([.ref h0]) ++ List.replicate (2 - (lg_sl ([.ref h0])).length) Slot.unset).toArray = ls at hl ⊢
  have hl : lv_has ls 2 [(0, .ref h0)] := hl
  refine lv_aload_n hx hb dX0_init_0 rfl (lv_at hl 0 rfl) ?_
  refine W.objInit hx hb hown (hts (.methodLink RX0 3 objectInit) (by decide +kernel)) (hts (.instanceMethod objectInit) (by decide +kernel)) (hts (.code objectInit ⟨#[0xb1]⟩ 1 none) (by decide +kernel)) rfl (by rw [hml]; exact hl.1) rfl dX0_init_1 (Nat.le_of_ble_eq_true rfl) (Nat.le_of_ble_eq_true rfl) ?_
  refine W.eq (g2 := F0 m 4 ls []) rfl ?_
  refine lv_aload_n hx hb dX0_init_4 rfl (lv_at hl 0 rfl) ?_
  refine lv_bipush (v := 32) hx hb dX0_init_5 (by decide) ?_
  refine va_newa (atype := .int) hx hb (hts (.arrayClass .int) (by decide +kernel)) (ty := .int) rfl hK hP hD hS hA (N' := 32) (a0 := (32, .inl (fun _ => 0))) (fun _ => rfl) (by decide +kernel) (by decide +kernel) (by decide +kernel) (by decide : 0 + 1 ≤ 3) (by decide +kernel : 0 + 32 ≤ 352) dX0_init_7 (fun qa cA H hK9 hP hD hS => ?_)
  obtain rfl : cI = cA := kK_same hK9 (a := 0) (b := 2) (Or.inl ⟨rfl, rfl⟩) rfl
  have hP : va_P (dC, dI) vwCl [(h0, .inr (0, [.null, .int 0, .null, .int 0, .null, .int 0, .int 0, .long 0])), (qa, .inl (cI, 32, .inl (fun _ => 0)))] H := hP
  have hD : va_D _ [(h0, .inr (0, [.null, .int 0, .null, .int 0, .null, .int 0, .int 0, .long 0])), (qa, .inl (cI, 32, .inl (fun _ => 0)))] := hD
  refine W.widen (k := 1) (n := 32) (by omega) (by omega) ?_
  refine va_putF (D := (dC, dI)) (ci := 0) (v := .ref qa) (ty := .array .int) (C := RX0) (T := TX0) (N := 8) hx hb hts hin tyX0 tyX0_ok nmX0 hown hK hP hD hS 0 rfl rfl 0 (by decide) (hts (.fieldLink RX0 9 "KindTable" "above" "[I") (by decide +kernel)) (fun _ h9 => h9) rfl hinm rfl (by decide +kernel) rfl rfl (Nat.le_of_ble_eq_true rfl) dX0_init_9 (fun H locs hP hD hS => ?_)
  have hP : va_P (dC, dI) vwCl [(h0, .inr (0, [.ref qa, .int 0, .null, .int 0, .null, .int 0, .int 0, .long 0])), (qa, .inl (cI, 32, .inl (fun _ => 0)))] H := hP
  have hD : va_D _ [(h0, .inr (0, [.ref qa, .int 0, .null, .int 0, .null, .int 0, .int 0, .long 0])), (qa, .inl (cI, 32, .inl (fun _ => 0)))] := hD
  refine lv_iconst (v := 0) hx hb dX0_init_12 (by decide) ?_
  refine lv_istore_n (lv' := [(1, .int 0), (0, .ref h0)]) hx hb dX0_init_13 rfl hl (by decide) rfl (fun ls hl => ?_)
  have loop : ∀ (Q : State → Prop), (∀ (H : Heap) (locs : List Loc), va_P (dC, dI) vwCl [(h0, .inr (0, [.ref qa, .int 0, .null, .int 0, .null, .int 0, .int 0, .long 0])), (qa, .inl (cI, 32, .inl (iA 20)))] H → va_D A [(h0, .inr (0, [.ref qa, .int 0, .null, .int 0, .null, .int 0, .int 0, .long 0])), (qa, .inl (cI, 32, .inl (iA 20)))] → va_S A s.heap H locs → ∀ (ls : Array Slot), lv_has ls 2 [(1, .int (nI 20)), (0, .ref h0)] → W p l e (headSpec wsX0_init ({ frames := 2, cells := 3, slots := 352, locals := 41 })).room s m ([.ref h0] : List Value).toArray below meth c H locs 1 32 Q (F0 m 36 ls [])) → ∀ (n k : Nat), k + n = 20 → ∀ (H : Heap) (locs : List Loc), va_P (dC, dI) vwCl [(h0, .inr (0, [.ref qa, .int 0, .null, .int 0, .null, .int 0, .int 0, .long 0])), (qa, .inl (cI, 32, .inl (iA k)))] H → va_D A [(h0, .inr (0, [.ref qa, .int 0, .null, .int 0, .null, .int 0, .int 0, .long 0])), (qa, .inl (cI, 32, .inl (iA k)))] → va_S A s.heap H locs → ∀ (ls : Array Slot), lv_has ls 2 [(1, .int (nI k)), (0, .ref h0)] → W p l e (headSpec wsX0_init ({ frames := 2, cells := 3, slots := 352, locals := 41 })).room s m ([.ref h0] : List Value).toArray below meth c H locs 1 32 Q (F0 m 14 ls []) := by
    intro Q K n
    induction n with
    | zero =>
      intro k hk H locs hP hD hS ls hl
      obtain rfl : k = 20 := by omega
      refine lv_iload_n hx hb dX0_init_14 rfl (lv_at hl 0 rfl) ?_
      refine lv_bipush (v := 20) hx hb dX0_init_15 (by decide) ?_
      refine lv_icmp_ge (tgt := 36) hx hb dX0_init_17 (by decide) (fun c17 => ?_) (fun c17 => ?_)
      · exact K H locs hP hD hS ls (lv_sub hl [0, 1] rfl)
      · exact absurd (by decide) c17
    | succ n ih =>
      intro k hk H locs hP hD hS ls hl
      refine lv_iload_n hx hb dX0_init_14 rfl (lv_at hl 0 rfl) ?_
      refine lv_bipush (v := 20) hx hb dX0_init_15 (by decide) ?_
      refine lv_icmp_ge (tgt := 36) hx hb dX0_init_17 (by decide) (fun c17 => ?_) (fun c17 => ?_)
      · exact absurd ((nI_leI (a := 20) (by decide) (by omega)).mp c17) (by omega)
      · refine lv_aload_n hx hb dX0_init_20 rfl (lv_at hl 1 rfl) ?_
        refine va_get (D := (dC, dI)) (ci := 0) (v := .ref qa) (C := RX0) (T := TX0) (N := 8) hx hb hts hin hown hK hP 0 rfl rfl 0 (by decide) (hts (.fieldLink RX0 9 "KindTable" "above" "[I") (by decide +kernel)) (fun _ h9 => h9) rfl dX0_init_21 ?_
        refine lv_iload_n hx hb dX0_init_24 rfl (lv_at hl 0 rfl) ?_
        refine lv_iload_n hx hb dX0_init_25 rfl (lv_at hl 0 rfl) ?_
        refine kc_S [.int (nI k)] [.int (nI k), .ref qa] ⟨hx, hb, hml, hown, hts⟩ (cX_firstAbove l (nI k)) (cwS 1 hts gX0_init_X0_firstAbove rfl rfl rfl (by decide +kernel) ⟨(Nat.le_of_ble_eq_true rfl), (Nat.le_of_ble_eq_true rfl)⟩) rfl hl.1 rfl (Nat.le_of_ble_eq_true rfl) dX0_init_26 ⟨(by decide : 1 ≤ 3), (by decide : 32 ≤ 352)⟩ ?_
        refine va_iast hx hb hK hP hD hS 1 0 rfl rfl (vp_in_nI (by omega) (by decide)) dX0_init_29 (fun H locs hP hD hS => ?_)
        have e_as : upd (iA k) (nI k).toNatClampNeg (fX_firstAbove (nI k)) = iA (k + 1) := iA_s (by omega)
        have hP : va_P (dC, dI) vwCl [(h0, .inr (0, [.ref qa, .int 0, .null, .int 0, .null, .int 0, .int 0, .long 0])), (qa, .inl (cI, 32, .inl (iA (k + 1))))] H := by rw [← e_as]; exact hP
        have hD : va_D A [(h0, .inr (0, [.ref qa, .int 0, .null, .int 0, .null, .int 0, .int 0, .long 0])), (qa, .inl (cI, 32, .inl (iA (k + 1))))] := by rw [← e_as]; exact hD
        refine lv_iinc (v := nI (k + 1)) (lv' := [(1, .int (nI (k + 1))), (0, .ref h0)]) hx hb dX0_init_30 hl (k := 0) rfl (nI_1 k) (by decide) rfl (fun ls hl => ?_)
        refine lv_goto (tgt := 14) hx hb dX0_init_33 (by decide) ?_
        exact ih (k + 1) (by omega) H locs hP hD hS ls (lv_sub hl [0, 1] rfl)
  refine loop _ ?_ 20 0 rfl H locs (by rw [iA_0]; exact hP) (by rw [iA_0]; exact hD) hS ls (lv_sub hl [0, 1] rfl)
  intro H locs hP hD hS ls hl
  refine lv_aload_n hx hb dX0_init_36 rfl (lv_at hl 1 rfl) ?_
  refine lv_bipush (v := 20) hx hb dX0_init_37 (by decide) ?_
  refine va_put (D := (dC, dI)) (ci := 0) (v := .int 20) (ty := .int) (C := RX0) (T := TX0) (N := 8) hx hb hts hin tyX0 tyX0_ok nmX0 hown hK hP hD hS 0 rfl rfl 1 (by decide) (hts (.fieldLink RX0 17 "KindTable" "kindCount" "I") (by decide +kernel)) (fun _ h9 => h9) rfl (by decide +kernel) rfl rfl (Nat.le_of_ble_eq_true rfl) dX0_init_39 (fun H locs hP hD hS => ?_)
  have hP : va_P (dC, dI) vwCl [(h0, .inr (0, [.ref qa, .int 20, .null, .int 0, .null, .int 0, .int 0, .long 0])), (qa, .inl (cI, 32, .inl (iA 20)))] H := hP
  have hD : va_D _ [(h0, .inr (0, [.ref qa, .int 20, .null, .int 0, .null, .int 0, .int 0, .long 0])), (qa, .inl (cI, 32, .inl (iA 20)))] := hD
  refine lv_aload_n hx hb dX0_init_42 rfl (lv_at hl 1 rfl) ?_
  refine lv_bipush (v := 20) hx hb dX0_init_43 (by decide) ?_
  refine va_newa (atype := .int) hx hb (hts (.arrayClass .int) (by decide +kernel)) (ty := .int) rfl hK hP hD hS hA (N' := 20) (a0 := (20, .inl (fun _ => 0))) (fun _ => rfl) (by decide +kernel) (by decide +kernel) (by decide +kernel) (by decide : 1 + 1 ≤ 3) (by decide +kernel : 32 + 20 ≤ 352) dX0_init_45 (fun qr cA H hK9 hP hD hS => ?_)
  obtain rfl : cI = cA := kK_same hK9 (a := 0) (b := 2) (Or.inl ⟨rfl, rfl⟩) rfl
  have hP : va_P (dC, dI) vwCl [(h0, .inr (0, [.ref qa, .int 20, .null, .int 0, .null, .int 0, .int 0, .long 0])), (qa, .inl (cI, 32, .inl (iA 20))), (qr, .inl (cI, 20, .inl (fun _ => 0)))] H := hP
  have hD : va_D _ [(h0, .inr (0, [.ref qa, .int 20, .null, .int 0, .null, .int 0, .int 0, .long 0])), (qa, .inl (cI, 32, .inl (iA 20))), (qr, .inl (cI, 20, .inl (fun _ => 0)))] := hD
  refine W.widen (k := 2) (n := 52) (by omega) (by omega) ?_
  refine va_putF (D := (dC, dI)) (ci := 0) (v := .ref qr) (ty := .array .int) (C := RX0) (T := TX0) (N := 8) hx hb hts hin tyX0 tyX0_ok nmX0 hown hK hP hD hS 0 rfl rfl 2 (by decide) (hts (.fieldLink RX0 21 "KindTable" "row" "[I") (by decide +kernel)) (fun _ h9 => h9) rfl hinm rfl (by decide +kernel) rfl rfl (Nat.le_of_ble_eq_true rfl) dX0_init_47 (fun H locs hP hD hS => ?_)
  have hP : va_P (dC, dI) vwCl [(h0, .inr (0, [.ref qa, .int 20, .ref qr, .int 0, .null, .int 0, .int 0, .long 0])), (qa, .inl (cI, 32, .inl (iA 20))), (qr, .inl (cI, 20, .inl (fun _ => 0)))] H := hP
  have hD : va_D _ [(h0, .inr (0, [.ref qa, .int 20, .ref qr, .int 0, .null, .int 0, .int 0, .long 0])), (qa, .inl (cI, 32, .inl (iA 20))), (qr, .inl (cI, 20, .inl (fun _ => 0)))] := hD
  refine lv_aload_n hx hb dX0_init_50 rfl (lv_at hl 1 rfl) ?_
  refine lv_iconst (v := 0) hx hb dX0_init_51 (by decide) ?_
  refine va_put (D := (dC, dI)) (ci := 0) (v := .int 0) (ty := .int) (C := RX0) (T := TX0) (N := 8) hx hb hts hin tyX0 tyX0_ok nmX0 hown hK hP hD hS 0 rfl rfl 3 (by decide) (hts (.fieldLink RX0 24 "KindTable" "rowLength" "I") (by decide +kernel)) (fun _ h9 => h9) rfl (by decide +kernel) rfl rfl (Nat.le_of_ble_eq_true rfl) dX0_init_52 (fun H locs hP hD hS => ?_)
  have hP : va_P (dC, dI) vwCl [(h0, .inr (0, [.ref qa, .int 20, .ref qr, .int 0, .null, .int 0, .int 0, .long 0])), (qa, .inl (cI, 32, .inl (iA 20))), (qr, .inl (cI, 20, .inl (fun _ => 0)))] H := hP
  have hD : va_D _ [(h0, .inr (0, [.ref qa, .int 20, .ref qr, .int 0, .null, .int 0, .int 0, .long 0])), (qa, .inl (cI, 32, .inl (iA 20))), (qr, .inl (cI, 20, .inl (fun _ => 0)))] := hD
  refine lv_aload_n hx hb dX0_init_55 rfl (lv_at hl 1 rfl) ?_
  refine lv_sipush (v := 300) hx hb dX0_init_56 (by decide) ?_
  refine va_newa (atype := .long) hx hb (hts (.arrayClass .long) (by decide +kernel)) (ty := .long) rfl hK hP hD hS hA (N' := 300) (a0 := (300, .inr (.inl (fun _ => 0)))) (fun _ => rfl) (by decide +kernel) (by decide +kernel) (by decide +kernel) (by decide : 2 + 1 ≤ 3) (by decide +kernel : 52 + 300 ≤ 352) dX0_init_59 (fun qt cA H hK9 hP hD hS => ?_)
  obtain rfl : cJ = cA := kK_same hK9 (a := 1) (b := 2) (Or.inr ⟨rfl, rfl⟩) rfl
  have hP : va_P (dC, dI) vwCl [(h0, .inr (0, [.ref qa, .int 20, .ref qr, .int 0, .null, .int 0, .int 0, .long 0])), (qa, .inl (cI, 32, .inl (iA 20))), (qr, .inl (cI, 20, .inl (fun _ => 0))), (qt, .inl (cJ, 300, .inr (.inl (fun _ => 0))))] H := hP
  have hD : va_D _ [(h0, .inr (0, [.ref qa, .int 20, .ref qr, .int 0, .null, .int 0, .int 0, .long 0])), (qa, .inl (cI, 32, .inl (iA 20))), (qr, .inl (cI, 20, .inl (fun _ => 0))), (qt, .inl (cJ, 300, .inr (.inl (fun _ => 0))))] := hD
  refine W.widen (k := 3) (n := 352) (by omega) (by omega) ?_
  refine va_putF (D := (dC, dI)) (ci := 0) (v := .ref qt) (ty := .array .long) (C := RX0) (T := TX0) (N := 8) hx hb hts hin tyX0 tyX0_ok nmX0 hown hK hP hD hS 0 rfl rfl 4 (by decide) (hts (.fieldLink RX0 27 "KindTable" "types" "[J") (by decide +kernel)) (fun _ h9 => h9) rfl hinm rfl (by decide +kernel) rfl rfl (Nat.le_of_ble_eq_true rfl) dX0_init_61 (fun H locs hP hD hS => ?_)
  have hP : va_P (dC, dI) vwCl [(h0, .inr (0, [.ref qa, .int 20, .ref qr, .int 0, .ref qt, .int 0, .int 0, .long 0])), (qa, .inl (cI, 32, .inl (iA 20))), (qr, .inl (cI, 20, .inl (fun _ => 0))), (qt, .inl (cJ, 300, .inr (.inl (fun _ => 0))))] H := hP
  have hD : va_D _ [(h0, .inr (0, [.ref qa, .int 20, .ref qr, .int 0, .ref qt, .int 0, .int 0, .long 0])), (qa, .inl (cI, 32, .inl (iA 20))), (qr, .inl (cI, 20, .inl (fun _ => 0))), (qt, .inl (cJ, 300, .inr (.inl (fun _ => 0))))] := hD
  refine lv_aload_n hx hb dX0_init_64 rfl (lv_at hl 1 rfl) ?_
  refine lv_iconst (v := 0) hx hb dX0_init_65 (by decide) ?_
  refine va_put (D := (dC, dI)) (ci := 0) (v := .int 0) (ty := .int) (C := RX0) (T := TX0) (N := 8) hx hb hts hin tyX0 tyX0_ok nmX0 hown hK hP hD hS 0 rfl rfl 5 (by decide) (hts (.fieldLink RX0 31 "KindTable" "typeCount" "I") (by decide +kernel)) (fun _ h9 => h9) rfl (by decide +kernel) rfl rfl (Nat.le_of_ble_eq_true rfl) dX0_init_66 (fun H locs hP hD hS => ?_)
  have hP : va_P (dC, dI) vwCl [(h0, .inr (0, [.ref qa, .int 20, .ref qr, .int 0, .ref qt, .int 0, .int 0, .long 0])), (qa, .inl (cI, 32, .inl (iA 20))), (qr, .inl (cI, 20, .inl (fun _ => 0))), (qt, .inl (cJ, 300, .inr (.inl (fun _ => 0))))] H := hP
  have hD : va_D _ [(h0, .inr (0, [.ref qa, .int 20, .ref qr, .int 0, .ref qt, .int 0, .int 0, .long 0])), (qa, .inl (cI, 32, .inl (iA 20))), (qr, .inl (cI, 20, .inl (fun _ => 0))), (qt, .inl (cJ, 300, .inr (.inl (fun _ => 0))))] := hD
  refine lv_aload_n hx hb dX0_init_69 rfl (lv_at hl 1 rfl) ?_
  refine lv_iconst (v := 0) hx hb dX0_init_70 (by decide) ?_
  refine va_put (D := (dC, dI)) (ci := 0) (v := .int 0) (ty := .int) (C := RX0) (T := TX0) (N := 8) hx hb hts hin tyX0 tyX0_ok nmX0 hown hK hP hD hS 0 rfl rfl 6 (by decide) (hts (.fieldLink RX0 34 "KindTable" "passedKind" "I") (by decide +kernel)) (fun _ h9 => h9) rfl (by decide +kernel) rfl rfl (Nat.le_of_ble_eq_true rfl) dX0_init_71 (fun H locs hP hD hS => ?_)
  have hP : va_P (dC, dI) vwCl [(h0, .inr (0, [.ref qa, .int 20, .ref qr, .int 0, .ref qt, .int 0, .int 0, .long 0])), (qa, .inl (cI, 32, .inl (iA 20))), (qr, .inl (cI, 20, .inl (fun _ => 0))), (qt, .inl (cJ, 300, .inr (.inl (fun _ => 0))))] H := hP
  have hD : va_D _ [(h0, .inr (0, [.ref qa, .int 20, .ref qr, .int 0, .ref qt, .int 0, .int 0, .long 0])), (qa, .inl (cI, 32, .inl (iA 20))), (qr, .inl (cI, 20, .inl (fun _ => 0))), (qt, .inl (cJ, 300, .inr (.inl (fun _ => 0))))] := hD
  refine lv_aload_n hx hb dX0_init_74 rfl (lv_at hl 1 rfl) ?_
  refine lv_lconst (v := 0) hx hb dX0_init_75 (by decide) ?_
  refine va_put (D := (dC, dI)) (ci := 0) (v := .long 0) (ty := .long) (C := RX0) (T := TX0) (N := 8) hx hb hts hin tyX0 tyX0_ok nmX0 hown hK hP hD hS 0 rfl rfl 7 (by decide) (hts (.fieldLink RX0 37 "KindTable" "passedNumber" "J") (by decide +kernel)) (fun _ h9 => h9) rfl (by decide +kernel) rfl rfl (Nat.le_of_ble_eq_true rfl) dX0_init_76 (fun H locs hP hD hS => ?_)
  have hP : va_P (dC, dI) vwCl [(h0, .inr (0, [.ref qa, .int 20, .ref qr, .int 0, .ref qt, .int 0, .int 0, .long 0])), (qa, .inl (cI, 32, .inl (iA 20))), (qr, .inl (cI, 20, .inl (fun _ => 0))), (qt, .inl (cJ, 300, .inr (.inl (fun _ => 0))))] H := hP
  have hD : va_D _ [(h0, .inr (0, [.ref qa, .int 20, .ref qr, .int 0, .ref qt, .int 0, .int 0, .long 0])), (qa, .inl (cI, 32, .inl (iA 20))), (qr, .inl (cI, 20, .inl (fun _ => 0))), (qt, .inl (cJ, 300, .inr (.inl (fun _ => 0))))] := hD
  exact W.vret hx hb hr (fun t ht hW => ⟨⟨(qa, qr, qt), rfl, trivial, by rw [ht]; exact hP, hD⟩, hS.F ht⟩) hS.2.2 dX0_init_79
set_option maxHeartbeats 1000000 in
set_option maxRecDepth 100000 in
theorem cM_init (l : Launch) (dC : Nat → ClassId) (dI : Nat → Nat → Nat) (cI : ClassId) (g0 sz : Nat) : Met l yX1_init wsX1_init ({ frames := 1, cells := 6, slots := 3664, locals := 20 }) (va_Pc [.ref g0] (fun U => U.heap.size = sz ∧ va_P (dC, dI) vwCl [(g0, .inr (1, [.null, .int 0, .null, .null, .null, .int 0, .null, .int 0, .int 0, .int 0, .null, .int 0, .long 0]))] U.heap ∧ va_K (dC, dI) vwCl [(cI, .int)] U ∧ va_D (fun _ => True) [(g0, .inr (1, [.null, .int 0, .null, .null, .null, .int 0, .null, .int 0, .int 0, .int 0, .null, .int 0, .long 0]))])) (va_Qv (fun _ : Nat × Nat × Nat × Nat × Nat × Nat => True) (fun u t => va_P (dC, dI) vwCl (mW g0 u.1 u.2.1 u.2.2.1 u.2.2.2.1 u.2.2.2.2.1 u.2.2.2.2.2 cI (fun _ => 0) 0 (fun _ => 0) (fun _ => 0) (fun _ => 0) 0 (fun _ => 0) 0 0 0 (fun _ => 0) 0 0) t.heap ∧ va_D (va_A [(g0, .inr (1, [.null, .int 0, .null, .null, .null, .int 0, .null, .int 0, .int 0, .int 0, .null, .int 0, .long 0]))] sz) (mW g0 u.1 u.2.1 u.2.2.1 u.2.2.2.1 u.2.2.2.2.1 u.2.2.2.2.2 cI (fun _ => 0) 0 (fun _ => 0) (fun _ => 0) (fun _ => 0) 0 (fun _ => 0) 0 0 0 (fun _ => 0) 0 0)) (va_A [(g0, .inr (1, [.null, .int 0, .null, .null, .null, .int 0, .null, .int 0, .int 0, .int 0, .null, .int 0, .long 0]))] sz)) 6 3664 (va_A [(g0, .inr (1, [.null, .int 0, .null, .null, .null, .int 0, .null, .int 0, .int 0, .int 0, .null, .int 0, .long 0]))] sz) := by
  refine Met.ofW (cc := cX1_init) (maxL := 1) (ret := none) (by decide) rfl ?_
  intro p e s m args below meth c s₁ B hml hv
  obtain ⟨rfl, hsz, hP, hK, hD0⟩ := hv
  have hx := B.exec
  have hb := B.bytes
  have hr := B.returns
  have hts := atoms_spec (ws := wsX1_init) B.pre
  have hown : s.vm.findClass RX1 = some m.cls := findClass_of_methodNamed B.named
  have hlocks := B.notSynchronized
  have hinm : meth.name = "<init>" := (name_of_methodNamed B.named B.method).1
  have hin : ∀ w ∈ u_ws RX1 TX1 13, w ∈ wsX1_init := by decide +kernel
  subst hsz
  have hD := hD0.self (sz := s.heap.size)
  generalize hAe : (va_A [(g0, .inr (1, [.null, .int 0, .null, .null, .null, .int 0, .null, .int 0, .int 0, .int 0, .null, .int 0, .long 0]))] s.heap.size) = A at hD ⊢
  have hA : ∀ q : Nat, s.heap.size ≤ q → A q := fun q h => by rw [← hAe]; exact Or.inr h
  have hS : va_S A s.heap s.heap [] := va_S.rf
  have hl := lv_entry ([.ref g0]) (n := 1) (Nat.le_of_ble_eq_true rfl)
  rw [lg_entry_eq]
  generalize (lg_sl ([.ref g0]) ++ List.replicate (1 - (lg_sl ([.ref g0])).length) Slot.unset).toArray = ls at hl ⊢
  have hl : lv_has ls 1 [(0, .ref g0)] := hl
  refine lv_aload_n hx hb dX1_init_0 rfl (lv_at hl 0 rfl) ?_
  refine W.objInit hx hb hown (hts (.methodLink RX1 1 objectInit) (by decide +kernel)) (hts (.instanceMethod objectInit) (by decide +kernel)) (hts (.code objectInit ⟨#[0xb1]⟩ 1 none) (by decide +kernel)) rfl (by rw [hml]; exact hl.1) rfl dX1_init_1 (Nat.le_of_ble_eq_true rfl) (Nat.le_of_ble_eq_true rfl) ?_
  refine W.eq (g2 := F0 m 4 ls []) rfl ?_
  refine lv_aload_n hx hb dX1_init_4 rfl (lv_at hl 0 rfl) ?_
  refine lv_bipush (v := 12) hx hb dX1_init_5 (by decide) ?_
  refine va_newa (atype := .int) hx hb (hts (.arrayClass .int) (by decide +kernel)) (ty := .int) rfl hK hP hD hS hA (N' := 12) (a0 := (12, .inl (fun _ => 0))) (fun _ => rfl) (by decide +kernel) (by decide +kernel) (by decide +kernel) (by decide : 0 + 1 ≤ 6) (by decide +kernel : 0 + 12 ≤ 3664) dX1_init_7 (fun gp cA H hK9 hP hD hS => ?_)
  obtain rfl : cI = cA := kK_same hK9 (a := 0) (b := 1) (Or.inl ⟨rfl, rfl⟩) rfl
  have hP : va_P (dC, dI) vwCl [(g0, .inr (1, [.null, .int 0, .null, .null, .null, .int 0, .null, .int 0, .int 0, .int 0, .null, .int 0, .long 0])), (gp, .inl (cI, 12, .inl (fun _ => 0)))] H := hP
  have hD : va_D _ [(g0, .inr (1, [.null, .int 0, .null, .null, .null, .int 0, .null, .int 0, .int 0, .int 0, .null, .int 0, .long 0])), (gp, .inl (cI, 12, .inl (fun _ => 0)))] := hD
  refine W.widen (k := 1) (n := 12) (by omega) (by omega) ?_
  refine va_putF (D := (dC, dI)) (ci := 1) (v := .ref gp) (ty := .array .int) (C := RX1) (T := TX1) (N := 13) hx hb hts hin tyX1 tyX1_ok nmX1 hown hK hP hD hS 0 rfl rfl 0 (by decide) (hts (.fieldLink RX1 7 "KindTableModel" "parent" "[I") (by decide +kernel)) (fun _ h9 => h9) rfl hinm rfl (by decide +kernel) rfl rfl (Nat.le_of_ble_eq_true rfl) dX1_init_9 (fun H locs hP hD hS => ?_)
  have hP : va_P (dC, dI) vwCl [(g0, .inr (1, [.ref gp, .int 0, .null, .null, .null, .int 0, .null, .int 0, .int 0, .int 0, .null, .int 0, .long 0])), (gp, .inl (cI, 12, .inl (fun _ => 0)))] H := hP
  have hD : va_D _ [(g0, .inr (1, [.ref gp, .int 0, .null, .null, .null, .int 0, .null, .int 0, .int 0, .int 0, .null, .int 0, .long 0])), (gp, .inl (cI, 12, .inl (fun _ => 0)))] := hD
  refine lv_aload_n hx hb dX1_init_12 rfl (lv_at hl 0 rfl) ?_
  refine lv_sipush (v := 300) hx hb dX1_init_13 (by decide) ?_
  refine va_newa (atype := .int) hx hb (hts (.arrayClass .int) (by decide +kernel)) (ty := .int) rfl hK hP hD hS hA (N' := 300) (a0 := (300, .inl (fun _ => 0))) (fun _ => rfl) (by decide +kernel) (by decide +kernel) (by decide +kernel) (by decide : 1 + 1 ≤ 6) (by decide +kernel : 12 + 300 ≤ 3664) dX1_init_16 (fun gr cA H hK9 hP hD hS => ?_)
  obtain rfl : cI = cA := kK_same hK9 (a := 0) (b := 1) (Or.inl ⟨rfl, rfl⟩) rfl
  have hP : va_P (dC, dI) vwCl [(g0, .inr (1, [.ref gp, .int 0, .null, .null, .null, .int 0, .null, .int 0, .int 0, .int 0, .null, .int 0, .long 0])), (gp, .inl (cI, 12, .inl (fun _ => 0))), (gr, .inl (cI, 300, .inl (fun _ => 0)))] H := hP
  have hD : va_D _ [(g0, .inr (1, [.ref gp, .int 0, .null, .null, .null, .int 0, .null, .int 0, .int 0, .int 0, .null, .int 0, .long 0])), (gp, .inl (cI, 12, .inl (fun _ => 0))), (gr, .inl (cI, 300, .inl (fun _ => 0)))] := hD
  refine W.widen (k := 2) (n := 312) (by omega) (by omega) ?_
  refine va_putF (D := (dC, dI)) (ci := 1) (v := .ref gr) (ty := .array .int) (C := RX1) (T := TX1) (N := 13) hx hb hts hin tyX1 tyX1_ok nmX1 hown hK hP hD hS 0 rfl rfl 2 (by decide) (hts (.fieldLink RX1 13 "KindTableModel" "typeResult" "[I") (by decide +kernel)) (fun _ h9 => h9) rfl hinm rfl (by decide +kernel) rfl rfl (Nat.le_of_ble_eq_true rfl) dX1_init_18 (fun H locs hP hD hS => ?_)
  have hP : va_P (dC, dI) vwCl [(g0, .inr (1, [.ref gp, .int 0, .ref gr, .null, .null, .int 0, .null, .int 0, .int 0, .int 0, .null, .int 0, .long 0])), (gp, .inl (cI, 12, .inl (fun _ => 0))), (gr, .inl (cI, 300, .inl (fun _ => 0)))] H := hP
  have hD : va_D _ [(g0, .inr (1, [.ref gp, .int 0, .ref gr, .null, .null, .int 0, .null, .int 0, .int 0, .int 0, .null, .int 0, .long 0])), (gp, .inl (cI, 12, .inl (fun _ => 0))), (gr, .inl (cI, 300, .inl (fun _ => 0)))] := hD
  refine lv_aload_n hx hb dX1_init_21 rfl (lv_at hl 0 rfl) ?_
  refine lv_sipush (v := 300) hx hb dX1_init_22 (by decide) ?_
  refine va_newa (atype := .int) hx hb (hts (.arrayClass .int) (by decide +kernel)) (ty := .int) rfl hK hP hD hS hA (N' := 300) (a0 := (300, .inl (fun _ => 0))) (fun _ => rfl) (by decide +kernel) (by decide +kernel) (by decide +kernel) (by decide : 2 + 1 ≤ 6) (by decide +kernel : 312 + 300 ≤ 3664) dX1_init_25 (fun gm cA H hK9 hP hD hS => ?_)
  obtain rfl : cI = cA := kK_same hK9 (a := 0) (b := 1) (Or.inl ⟨rfl, rfl⟩) rfl
  have hP : va_P (dC, dI) vwCl [(g0, .inr (1, [.ref gp, .int 0, .ref gr, .null, .null, .int 0, .null, .int 0, .int 0, .int 0, .null, .int 0, .long 0])), (gp, .inl (cI, 12, .inl (fun _ => 0))), (gr, .inl (cI, 300, .inl (fun _ => 0))), (gm, .inl (cI, 300, .inl (fun _ => 0)))] H := hP
  have hD : va_D _ [(g0, .inr (1, [.ref gp, .int 0, .ref gr, .null, .null, .int 0, .null, .int 0, .int 0, .int 0, .null, .int 0, .long 0])), (gp, .inl (cI, 12, .inl (fun _ => 0))), (gr, .inl (cI, 300, .inl (fun _ => 0))), (gm, .inl (cI, 300, .inl (fun _ => 0)))] := hD
  refine W.widen (k := 3) (n := 612) (by omega) (by omega) ?_
  refine va_putF (D := (dC, dI)) (ci := 1) (v := .ref gm) (ty := .array .int) (C := RX1) (T := TX1) (N := 13) hx hb hts hin tyX1 tyX1_ok nmX1 hown hK hP hD hS 0 rfl rfl 3 (by decide) (hts (.fieldLink RX1 16 "KindTableModel" "typeMany" "[I") (by decide +kernel)) (fun _ h9 => h9) rfl hinm rfl (by decide +kernel) rfl rfl (Nat.le_of_ble_eq_true rfl) dX1_init_27 (fun H locs hP hD hS => ?_)
  have hP : va_P (dC, dI) vwCl [(g0, .inr (1, [.ref gp, .int 0, .ref gr, .ref gm, .null, .int 0, .null, .int 0, .int 0, .int 0, .null, .int 0, .long 0])), (gp, .inl (cI, 12, .inl (fun _ => 0))), (gr, .inl (cI, 300, .inl (fun _ => 0))), (gm, .inl (cI, 300, .inl (fun _ => 0)))] H := hP
  have hD : va_D _ [(g0, .inr (1, [.ref gp, .int 0, .ref gr, .ref gm, .null, .int 0, .null, .int 0, .int 0, .int 0, .null, .int 0, .long 0])), (gp, .inl (cI, 12, .inl (fun _ => 0))), (gr, .inl (cI, 300, .inl (fun _ => 0))), (gm, .inl (cI, 300, .inl (fun _ => 0)))] := hD
  refine lv_aload_n hx hb dX1_init_30 rfl (lv_at hl 0 rfl) ?_
  refine lv_sipush (v := 3000) hx hb dX1_init_31 (by decide) ?_
  refine va_newa (atype := .int) hx hb (hts (.arrayClass .int) (by decide +kernel)) (ty := .int) rfl hK hP hD hS hA (N' := 3000) (a0 := (3000, .inl (fun _ => 0))) (fun _ => rfl) (by decide +kernel) (by decide +kernel) (by decide +kernel) (by decide : 3 + 1 ≤ 6) (by decide +kernel : 612 + 3000 ≤ 3664) dX1_init_34 (fun gl cA H hK9 hP hD hS => ?_)
  obtain rfl : cI = cA := kK_same hK9 (a := 0) (b := 1) (Or.inl ⟨rfl, rfl⟩) rfl
  have hP : va_P (dC, dI) vwCl [(g0, .inr (1, [.ref gp, .int 0, .ref gr, .ref gm, .null, .int 0, .null, .int 0, .int 0, .int 0, .null, .int 0, .long 0])), (gp, .inl (cI, 12, .inl (fun _ => 0))), (gr, .inl (cI, 300, .inl (fun _ => 0))), (gm, .inl (cI, 300, .inl (fun _ => 0))), (gl, .inl (cI, 3000, .inl (fun _ => 0)))] H := hP
  have hD : va_D _ [(g0, .inr (1, [.ref gp, .int 0, .ref gr, .ref gm, .null, .int 0, .null, .int 0, .int 0, .int 0, .null, .int 0, .long 0])), (gp, .inl (cI, 12, .inl (fun _ => 0))), (gr, .inl (cI, 300, .inl (fun _ => 0))), (gm, .inl (cI, 300, .inl (fun _ => 0))), (gl, .inl (cI, 3000, .inl (fun _ => 0)))] := hD
  refine W.widen (k := 4) (n := 3612) (by omega) (by omega) ?_
  refine va_putF (D := (dC, dI)) (ci := 1) (v := .ref gl) (ty := .array .int) (C := RX1) (T := TX1) (N := 13) hx hb hts hin tyX1 tyX1_ok nmX1 hown hK hP hD hS 0 rfl rfl 4 (by decide) (hts (.fieldLink RX1 19 "KindTableModel" "typePlace" "[I") (by decide +kernel)) (fun _ h9 => h9) rfl hinm rfl (by decide +kernel) rfl rfl (Nat.le_of_ble_eq_true rfl) dX1_init_36 (fun H locs hP hD hS => ?_)
  have hP : va_P (dC, dI) vwCl [(g0, .inr (1, [.ref gp, .int 0, .ref gr, .ref gm, .ref gl, .int 0, .null, .int 0, .int 0, .int 0, .null, .int 0, .long 0])), (gp, .inl (cI, 12, .inl (fun _ => 0))), (gr, .inl (cI, 300, .inl (fun _ => 0))), (gm, .inl (cI, 300, .inl (fun _ => 0))), (gl, .inl (cI, 3000, .inl (fun _ => 0)))] H := hP
  have hD : va_D _ [(g0, .inr (1, [.ref gp, .int 0, .ref gr, .ref gm, .ref gl, .int 0, .null, .int 0, .int 0, .int 0, .null, .int 0, .long 0])), (gp, .inl (cI, 12, .inl (fun _ => 0))), (gr, .inl (cI, 300, .inl (fun _ => 0))), (gm, .inl (cI, 300, .inl (fun _ => 0))), (gl, .inl (cI, 3000, .inl (fun _ => 0)))] := hD
  refine lv_aload_n hx hb dX1_init_39 rfl (lv_at hl 0 rfl) ?_
  refine lv_bipush (v := 20) hx hb dX1_init_40 (by decide) ?_
  refine va_newa (atype := .int) hx hb (hts (.arrayClass .int) (by decide +kernel)) (ty := .int) rfl hK hP hD hS hA (N' := 20) (a0 := (20, .inl (fun _ => 0))) (fun _ => rfl) (by decide +kernel) (by decide +kernel) (by decide +kernel) (by decide : 4 + 1 ≤ 6) (by decide +kernel : 3612 + 20 ≤ 3664) dX1_init_42 (fun gw cA H hK9 hP hD hS => ?_)
  obtain rfl : cI = cA := kK_same hK9 (a := 0) (b := 1) (Or.inl ⟨rfl, rfl⟩) rfl
  have hP : va_P (dC, dI) vwCl [(g0, .inr (1, [.ref gp, .int 0, .ref gr, .ref gm, .ref gl, .int 0, .null, .int 0, .int 0, .int 0, .null, .int 0, .long 0])), (gp, .inl (cI, 12, .inl (fun _ => 0))), (gr, .inl (cI, 300, .inl (fun _ => 0))), (gm, .inl (cI, 300, .inl (fun _ => 0))), (gl, .inl (cI, 3000, .inl (fun _ => 0))), (gw, .inl (cI, 20, .inl (fun _ => 0)))] H := hP
  have hD : va_D _ [(g0, .inr (1, [.ref gp, .int 0, .ref gr, .ref gm, .ref gl, .int 0, .null, .int 0, .int 0, .int 0, .null, .int 0, .long 0])), (gp, .inl (cI, 12, .inl (fun _ => 0))), (gr, .inl (cI, 300, .inl (fun _ => 0))), (gm, .inl (cI, 300, .inl (fun _ => 0))), (gl, .inl (cI, 3000, .inl (fun _ => 0))), (gw, .inl (cI, 20, .inl (fun _ => 0)))] := hD
  refine W.widen (k := 5) (n := 3632) (by omega) (by omega) ?_
  refine va_putF (D := (dC, dI)) (ci := 1) (v := .ref gw) (ty := .array .int) (C := RX1) (T := TX1) (N := 13) hx hb hts hin tyX1 tyX1_ok nmX1 hown hK hP hD hS 0 rfl rfl 6 (by decide) (hts (.fieldLink RX1 22 "KindTableModel" "row" "[I") (by decide +kernel)) (fun _ h9 => h9) rfl hinm rfl (by decide +kernel) rfl rfl (Nat.le_of_ble_eq_true rfl) dX1_init_44 (fun H locs hP hD hS => ?_)
  have hP : va_P (dC, dI) vwCl [(g0, .inr (1, [.ref gp, .int 0, .ref gr, .ref gm, .ref gl, .int 0, .ref gw, .int 0, .int 0, .int 0, .null, .int 0, .long 0])), (gp, .inl (cI, 12, .inl (fun _ => 0))), (gr, .inl (cI, 300, .inl (fun _ => 0))), (gm, .inl (cI, 300, .inl (fun _ => 0))), (gl, .inl (cI, 3000, .inl (fun _ => 0))), (gw, .inl (cI, 20, .inl (fun _ => 0)))] H := hP
  have hD : va_D _ [(g0, .inr (1, [.ref gp, .int 0, .ref gr, .ref gm, .ref gl, .int 0, .ref gw, .int 0, .int 0, .int 0, .null, .int 0, .long 0])), (gp, .inl (cI, 12, .inl (fun _ => 0))), (gr, .inl (cI, 300, .inl (fun _ => 0))), (gm, .inl (cI, 300, .inl (fun _ => 0))), (gl, .inl (cI, 3000, .inl (fun _ => 0))), (gw, .inl (cI, 20, .inl (fun _ => 0)))] := hD
  refine lv_aload_n hx hb dX1_init_47 rfl (lv_at hl 0 rfl) ?_
  refine lv_bipush (v := 32) hx hb dX1_init_48 (by decide) ?_
  refine va_newa (atype := .int) hx hb (hts (.arrayClass .int) (by decide +kernel)) (ty := .int) rfl hK hP hD hS hA (N' := 32) (a0 := (32, .inl (fun _ => 0))) (fun _ => rfl) (by decide +kernel) (by decide +kernel) (by decide +kernel) (by decide : 5 + 1 ≤ 6) (by decide +kernel : 3632 + 32 ≤ 3664) dX1_init_50 (fun gn cA H hK9 hP hD hS => ?_)
  obtain rfl : cI = cA := kK_same hK9 (a := 0) (b := 1) (Or.inl ⟨rfl, rfl⟩) rfl
  have hP : va_P (dC, dI) vwCl [(g0, .inr (1, [.ref gp, .int 0, .ref gr, .ref gm, .ref gl, .int 0, .ref gw, .int 0, .int 0, .int 0, .null, .int 0, .long 0])), (gp, .inl (cI, 12, .inl (fun _ => 0))), (gr, .inl (cI, 300, .inl (fun _ => 0))), (gm, .inl (cI, 300, .inl (fun _ => 0))), (gl, .inl (cI, 3000, .inl (fun _ => 0))), (gw, .inl (cI, 20, .inl (fun _ => 0))), (gn, .inl (cI, 32, .inl (fun _ => 0)))] H := hP
  have hD : va_D _ [(g0, .inr (1, [.ref gp, .int 0, .ref gr, .ref gm, .ref gl, .int 0, .ref gw, .int 0, .int 0, .int 0, .null, .int 0, .long 0])), (gp, .inl (cI, 12, .inl (fun _ => 0))), (gr, .inl (cI, 300, .inl (fun _ => 0))), (gm, .inl (cI, 300, .inl (fun _ => 0))), (gl, .inl (cI, 3000, .inl (fun _ => 0))), (gw, .inl (cI, 20, .inl (fun _ => 0))), (gn, .inl (cI, 32, .inl (fun _ => 0)))] := hD
  refine W.widen (k := 6) (n := 3664) (by omega) (by omega) ?_
  refine va_putF (D := (dC, dI)) (ci := 1) (v := .ref gn) (ty := .array .int) (C := RX1) (T := TX1) (N := 13) hx hb hts hin tyX1 tyX1_ok nmX1 hown hK hP hD hS 0 rfl rfl 10 (by decide) (hts (.fieldLink RX1 25 "KindTableModel" "newPlace" "[I") (by decide +kernel)) (fun _ h9 => h9) rfl hinm rfl (by decide +kernel) rfl rfl (Nat.le_of_ble_eq_true rfl) dX1_init_52 (fun H locs hP hD hS => ?_)
  have hP : va_P (dC, dI) vwCl [(g0, .inr (1, [.ref gp, .int 0, .ref gr, .ref gm, .ref gl, .int 0, .ref gw, .int 0, .int 0, .int 0, .ref gn, .int 0, .long 0])), (gp, .inl (cI, 12, .inl (fun _ => 0))), (gr, .inl (cI, 300, .inl (fun _ => 0))), (gm, .inl (cI, 300, .inl (fun _ => 0))), (gl, .inl (cI, 3000, .inl (fun _ => 0))), (gw, .inl (cI, 20, .inl (fun _ => 0))), (gn, .inl (cI, 32, .inl (fun _ => 0)))] H := hP
  have hD : va_D _ [(g0, .inr (1, [.ref gp, .int 0, .ref gr, .ref gm, .ref gl, .int 0, .ref gw, .int 0, .int 0, .int 0, .ref gn, .int 0, .long 0])), (gp, .inl (cI, 12, .inl (fun _ => 0))), (gr, .inl (cI, 300, .inl (fun _ => 0))), (gm, .inl (cI, 300, .inl (fun _ => 0))), (gl, .inl (cI, 3000, .inl (fun _ => 0))), (gw, .inl (cI, 20, .inl (fun _ => 0))), (gn, .inl (cI, 32, .inl (fun _ => 0)))] := hD
  exact W.vret hx hb hr (fun t ht hW => ⟨⟨(gp, gr, gm, gl, gw, gn), rfl, trivial, by rw [ht]; exact hP, hD⟩, hS.F ht⟩) hS.2.2 dX1_init_55
