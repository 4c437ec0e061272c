def fQ (tr tm tp np : Nat → Int32) (r : Int32) (N t : Nat) : Bool := (decide (tr t = r) && decide (tm t = nI N)) && mall (fun k => decide (tp (10 * t + k) = np k)) N
def tpC (tp np : Nat → Int32) (t n : Nat) : Nat → Int32 := fun j => if 10 * t ≤ j ∧ j < 10 * t + n then np (j - 10 * t) else tp j
theorem tpC_0 (tp np : Nat → Int32) (t : Nat) : tpC tp np t 0 = tp := by
  funext j
  unfold tpC
  rw [if_neg (by omega)]
theorem tpC_s {tp np : Nat → Int32} {t k : Nat} (h : 10 * t + k < 2 ^ 31) : upd (tpC tp np t k) (nI (10 * t + k)).toNatClampNeg (np k) = tpC tp np t (k + 1) := by
  rw [nI_clamp h]
  funext j
  unfold upd tpC
  by_cases c : j = 10 * t + k
  · rw [if_pos c, if_pos (by omega), show j - 10 * t = k by omega]
  · rw [if_neg c]
    by_cases d : 10 * t ≤ j ∧ j < 10 * t + k
    · rw [if_pos d, if_pos (by omega)]
    · rw [if_neg d, if_neg (by omega)]
def npC (np wv : Nat → Int32) (n : Nat) : Nat → Int32 := fun j => if j < n then wv j else np j
theorem npC_0 (np wv : Nat → Int32) : npC np wv 0 = np := by
  funext j
  unfold npC
  rw [if_neg (by omega)]
theorem npC_s {np wv : Nat → Int32} {k : Nat} (h : k < 2 ^ 31) : upd (npC np wv k) (nI k).toNatClampNeg (wv k) = npC np wv (k + 1) := by
  rw [nI_clamp h]
  funext j
  unfold upd npC
  by_cases c : j = k
  · rw [if_pos c, if_pos (by omega), c]
  · rw [if_neg c]
    by_cases d : j < k
    · rw [if_pos d, if_pos (by omega)]
    · rw [if_neg d, if_neg (by omega)]
theorem oI_some {o : Option Nat} (h : ¬ oI o = -1) : ∃ z, o = some z := by
  cases o with
  | none => exact absurd rfl h
  | some z => exact ⟨z, rfl⟩
theorem nI_m1 {z : Nat} (hz : z < 2 ^ 31) : ¬ nI z = -1 := by
  intro h
  have := nI_toInt hz
  rw [h] at this
  have e : (-1 : Int32).toInt = -1 := by decide
  omega
theorem oI_none {P : Nat → Bool} {n : Nat} (hn : n ≤ 300) (h : oI (fnd P n 0) = -1) : fnd P n 0 = none := by
  cases ho : fnd P n 0 with
  | none => rfl
  | some z =>
    rw [ho] at h
    have := fnd_lt n 0 z ho
    exact absurd h (nI_m1 (by omega))
theorem mnm {nm : Nat} (h : nm ≤ 32) (c : nI nm ≤ (10 : Int32)) : nm ≤ 10 := (nI_leI (b := 10) (by omega) (by decide)).mp c
theorem mnmF {nm : Nat} (c : ¬ nI nm ≤ (10 : Int32)) : ¬ nm ≤ 10 := fun q => c (nI_le (b := 10) q (by decide))
def kTP (tr tp : Nat → Int32) (tM : Nat → Nat) (mt : Nat) : Prop := ∀ i, i < mt → vp_in (tr i) 32 ∧ ∀ k, k < tM i → vp_in (tp (10 * i + k)) 32
def fM_mayBe (tr tm tp : Nat → Int32) (mt : Nat) (bl : Nat → Nat → Bool) (x1 x2 : Int32) (x3 : Bool) : Bool := if (bI (fM_isType mt x1)) = 0 then false else if (bI (fM_isType mt x2)) = 0 then false else if tm x1.toNatClampNeg = tm x2.toNatClampNeg then (mall (fun k => fM_mayPass bl (tp (10 * x2.toNatClampNeg + k)) (tp (10 * x1.toNatClampNeg + k)) x3 false) (tm x1.toNatClampNeg).toNatClampNeg && fM_mayPass bl (tr x1.toNatClampNeg) (tr x2.toNatClampNeg) x3 true) else false
def fM_typeOK (nc : Nat) (wv : Nat → Int32) (nw : Nat) (x1 : Int32) : Bool := fM_isKind nc x1 && decide (nw ≤ 10) && mall (fun k => fM_isKind nc (wv k) && !decide (wv k = 0)) nw
theorem mtyOK_yes {nc nw : Nat} {wv : Nat → Int32} {x1 : Int32} (c : ¬ bI (fM_isKind nc x1) = 0) (c2 : ¬ (10 : Int32) < nI nw) (hnw : nw ≤ 20) (he : mall (fun k => fM_isKind nc (wv k) && !decide (wv k = 0)) nw = true) : fM_typeOK nc wv nw x1 = true := by
  rw [fM_typeOK, bI_n0 c, he, decide_eq_true (Nat.not_lt.mp (fun q => c2 (nI_lt (a := 10) q (by omega))))]
  rfl
theorem mtyOK_no {nc nw : Nat} {wv : Nat → Int32} {x1 : Int32} (h : mall (fun k => fM_isKind nc (wv k) && !decide (wv k = 0)) nw = false) : fM_typeOK nc wv nw x1 = false := by
  rw [fM_typeOK, h, Bool.and_false]
theorem mtyOK_k {nc nw : Nat} {wv : Nat → Int32} {x1 : Int32} (c : bI (fM_isKind nc x1) = 0) : fM_typeOK nc wv nw x1 = false := by
  rw [fM_typeOK, bI_e0 c]
  rfl
theorem mtyOK_n {nc nw : Nat} {wv : Nat → Int32} {x1 : Int32} (hnw : nw ≤ 20) (c : (10 : Int32) < nI nw) : fM_typeOK nc wv nw x1 = false := by
  have : 10 < nw := (nI_ltI (a := 10) (by decide) (by omega)).mp c
  rw [fM_typeOK, decide_eq_false (by omega : ¬ nw ≤ 10), Bool.and_false, Bool.false_and]
def addL (np : Nat → Int32) (nm : Nat) (f : Nat → Int32) : Nat → Nat → Int32
  | 0 => np
  | n + 1 => upd (addL np nm f n) (nm + n) (f n)
def add0 (np : Nat → Int32) (f : Nat → Int32) : Nat → Nat → Int32
  | 0 => np
  | n + 1 => upd (add0 np f n) n (f n)
def chN1 (tp np : Nat → Int32) (i a : Nat) : Nat → Int32 := add0 np (fun k => tp (10 * i + k)) a
def chN2 (tp np : Nat → Int32) (i a u mu : Nat) : Nat → Int32 := addL (chN1 tp np i a) a (fun k => tp (10 * u + k)) mu
def chN3 (tp np : Nat → Int32) (i a b u mu n : Nat) : Nat → Int32 := addL (chN2 tp np i a u mu) (a + mu) (fun k => tp (10 * i + (a + b + k))) n
def fM_chOK (tm : Nat → Int32) (mt : Nat) (x1 x2 x3 x4 : Int32) : Bool := if (bI (fM_isType mt x1)) = 0 then false else if (bI (fM_isType mt x4)) = 0 then false else if x2 < 0 then false else if x3 < 0 then false else if lg_cmp (x2.toInt64 + x3.toInt64) (tm x1.toNatClampNeg).toInt64 ≤ 0 then true else false
theorem lgc_le {x y : Int64} : lg_cmp x y ≤ 0 ↔ x ≤ y := by
  unfold lg_cmp
  by_cases h : x > y
  · rw [if_pos h]
    exact ⟨fun q => absurd q (by decide), fun q => absurd h (by
      rw [gt_iff_lt, Int64.lt_iff_toInt_lt]
      rw [Int64.le_iff_toInt_le] at q
      omega)⟩
  · rw [if_neg h]
    rw [gt_iff_lt, Int64.lt_iff_toInt_lt] at h
    have h1 : x ≤ y := by
      rw [Int64.le_iff_toInt_le]
      omega
    by_cases h2 : x = y
    · rw [if_pos h2]; exact ⟨fun _ => h1, fun _ => by decide⟩
    · rw [if_neg h2]; exact ⟨fun _ => h1, fun _ => by decide⟩
theorem ch_le {a b N : Nat} (ha : a < 2 ^ 31) (hb : b < 2 ^ 31) (hN : N ≤ 10) : lg_cmp ((nI a).toInt64 + (nI b).toInt64) (nI N).toInt64 ≤ 0 ↔ a + b ≤ N := by
  rw [lgc_le, nI_l ha, nI_l hb, nI_l (by omega), lN_add, pk_lLE (by omega) (by omega)]

set_option maxHeartbeats 4000000 in
set_option maxRecDepth 100000 in
theorem cM_findType (l : Launch) (dC : Nat → ClassId) (dI : Nat → Nat → Nat) (g0 gp gr gm gl gw gn : Nat) (cI : ClassId) (pv : Nat → Int32) (nc : Nat) (tr : Nat → Int32) (tm : Nat → Int32) (tp : Nat → Int32) (mt : Nat) (wv : Nat → Int32) (nw : Nat) (re : Int32) (nm : Nat) (np : Nat → Int32) (kk : Int32) (kn : Int64) (x1 : Int32) (N : Nat) (hmt : mt ≤ 300) (hN : N ≤ 10) : Met l yX1_findType wsZ1_findType ({ frames := 0, cells := 0, slots := 0, locals := 0 }) (kPr (dC, dI) vwCl [(cI, .int)] (mW g0 gp gr gm gl gw gn cI pv nc tr tm tp mt wv nw re nm np kk kn) [.ref g0, .int x1, .int (nI N)]) (k2_QcV (.int (oI (fnd (fQ tr tm tp np x1 N) mt 0)))) 0 0 kNo := by
  refine Met.ofW (cc := cX1_findType) (maxL := 6) (ret := (some .int)) (by decide) rfl ?_
  intro p e s m args below meth c s₁ B hml hv
  obtain ⟨rfl, hP, hK⟩ := hv
  have hx := B.exec
  have hb := B.bytes
  have hr := B.returns
  have hts := atoms_spec (ws := wsZ1_findType) B.pre
  have hown : s.vm.findClass RX1 = some m.cls := findClass_of_methodNamed B.named
  have hlocks := B.notSynchronized
  have hin : ∀ w ∈ u_ws RX1 TX1 13, w ∈ wsZ1_findType := fun w h => List.mem_cons_of_mem _ (inZ1 w h)
  have hl := lv_entry ([.ref g0, .int x1, .int (nI N)]) (n := 6) (Nat.le_of_ble_eq_true rfl)
  rw [lg_entry_eq]
  generalize (lg_sl ([.ref g0, .int x1, .int (nI N)]) ++ List.replicate (6 - (lg_sl ([.ref g0, .int x1, .int (nI N)])).length) Slot.unset).toArray = ls at hl ⊢
  have hl : lv_has ls 6 [(0, .ref g0), (1, .int x1), (2, .int (nI N))] := hl
  refine lv_iconst (v := 0) hx hb dX1_findType_0 (by decide) ?_
  refine lv_istore_n (lv' := [(3, .int 0), (0, .ref g0), (1, .int x1), (2, .int (nI N))]) hx hb dX1_findType_1 rfl hl (by decide) rfl (fun ls hl => ?_)
  suffices oloop : ∀ (n t : Nat), t + n = mt → fnd (fQ tr tm tp np x1 N) n t = (fnd (fQ tr tm tp np x1 N) mt 0) → ∀ (ls : Array Slot), lv_has ls 6 [(3, .int (nI t)), (0, .ref g0), (1, .int x1), (2, .int (nI N))] → W p l e (headSpec wsZ1_findType ({ frames := 0, cells := 0, slots := 0, locals := 0 })).room s m ([.ref g0, .int x1, .int (nI N)] : List Value).toArray below meth c s.heap [] 0 0 (MQ below (k2_QcV (.int (oI (fnd (fQ tr tm tp np x1 N) mt 0)))) ([.ref g0, .int x1, .int (nI N)] : List Value).toArray s 0 0 kNo) (F0 m 2 ls []) by
    exact oloop mt 0 (by omega) rfl ls (lv_sub hl [0, 1, 2, 3] rfl)
  intro n
  induction n with
  | zero =>
    intro t ht0 he ls hl
    refine lv_iload_n hx hb dX1_findType_2 rfl (lv_at hl 0 rfl) ?_
    refine lv_aload_n hx hb dX1_findType_3 rfl (lv_at hl 1 rfl) ?_
    refine va_get (D := (dC, dI)) (ci := 1) (v := .int (nI mt)) (C := RX1) (T := TX1) (N := 13) hx hb hts hin hown hK hP 0 rfl rfl 5 (by decide) (hts _ (List.mem_cons_of_mem _ tk_fl_51)) (fun _ h9 => h9) rfl dX1_findType_4 ?_
    refine lv_icmp_ge (tgt := 99) hx hb dX1_findType_7 (by decide) (fun c7 => ?_) (fun c7 => ?_)
    · refine lv_iconst (v := -1) hx hb dX1_findType_99 (by decide) ?_
      exact W.iret hx hb hr (fun t ht hW => ⟨by rw [← he] <;> rfl, ht⟩) (fun _ h => by cases h) dX1_findType_100
    · exact absurd (nI_le (by omega) (by omega)) c7
  | succ n iho =>
    intro t ht0 he ls hl
    refine lv_iload_n hx hb dX1_findType_2 rfl (lv_at hl 0 rfl) ?_
    refine lv_aload_n hx hb dX1_findType_3 rfl (lv_at hl 1 rfl) ?_
    refine va_get (D := (dC, dI)) (ci := 1) (v := .int (nI mt)) (C := RX1) (T := TX1) (N := 13) hx hb hts hin hown hK hP 0 rfl rfl 5 (by decide) (hts _ (List.mem_cons_of_mem _ tk_fl_51)) (fun _ h9 => h9) rfl dX1_findType_4 ?_
    refine lv_icmp_ge (tgt := 99) hx hb dX1_findType_7 (by decide) (fun c7 => ?_) (fun c7 => ?_)
    · exact absurd ((nI_leI (by omega) (by omega)).mp c7) (by omega)
    · refine lv_aload_n hx hb dX1_findType_10 rfl (lv_at hl 1 rfl) ?_
      refine va_get (D := (dC, dI)) (ci := 1) (v := .ref gr) (C := RX1) (T := TX1) (N := 13) hx hb hts hin hown hK hP 0 rfl rfl 2 (by decide) (hts _ (List.mem_cons_of_mem _ tk_fl_13)) (fun _ h9 => h9) rfl dX1_findType_11 ?_
      refine lv_iload_n hx hb dX1_findType_14 rfl (lv_at hl 0 rfl) ?_
      refine va_iald hx hb hK hP 2 0 rfl rfl (vp_in_nI (by omega) (by decide)) dX1_findType_15 ?_
      refine kv_topi (y := tr t) (by rw [nI_clamp (by omega)]) ?_
      refine lv_iload_n hx hb dX1_findType_16 rfl (lv_at hl 2 rfl) ?_
      refine lv_icmp_ne (tgt := 34) hx hb dX1_findType_17 (by decide) (fun c17 => ?_) (fun c17 => ?_)
      · refine lv_iconst (v := 0) hx hb dX1_findType_34 (by decide) ?_
        refine lv_istore (lv' := [(4, .int 0), (3, .int (nI t)), (0, .ref g0), (1, .int x1), (2, .int (nI N))]) hx hb dX1_findType_35 hl (by decide) rfl (fun ls hl => ?_)
        refine lv_iconst (v := 0) hx hb dX1_findType_37 (by decide) ?_
        refine lv_istore (lv' := [(5, .int 0), (4, .int 0), (3, .int (nI t)), (0, .ref g0), (1, .int x1), (2, .int (nI N))]) hx hb dX1_findType_38 hl (by decide) rfl (fun ls hl => ?_)
        refine lv_iload hx hb dX1_findType_40 (lv_at hl 0 rfl) ?_
        refine lv_iload_n hx hb dX1_findType_42 rfl (lv_at hl 5 rfl) ?_
        refine lv_icmp_ge (tgt := 86) hx hb dX1_findType_43 (by decide) (fun c43 => ?_) (fun c43 => ?_)
        · refine lv_iload hx hb dX1_findType_86 (lv_at hl 1 rfl) ?_
          refine lv_if_eq (tgt := 93) hx hb dX1_findType_88 (by decide) (fun c88 => ?_) (fun c88 => ?_)
          · refine lv_iinc (v := nI (t + 1)) (lv' := [(3, .int (nI (t + 1))), (5, .int 0), (4, .int 0), (0, .ref g0), (1, .int x1), (2, .int (nI N))]) hx hb dX1_findType_93 hl (k := 2) rfl (nI_1 t) (by decide) rfl (fun ls hl => ?_)
            refine lv_goto (tgt := 2) hx hb dX1_findType_96 (by decide) ?_
            exact iho (t + 1) (by omega) (by rw [← he, fnd, if_neg (by rw [fQ, decide_eq_false c17]; simp)]) ls (lv_sub hl [0, 3, 4, 5] rfl)
          · exact absurd rfl c88
        · refine lv_iload hx hb dX1_findType_46 (lv_at hl 1 rfl) ?_
          refine lv_if_eq (tgt := 86) hx hb dX1_findType_48 (by decide) (fun c48 => ?_) (fun c48 => ?_)
          · refine lv_iload hx hb dX1_findType_86 (lv_at hl 1 rfl) ?_
            refine lv_if_eq (tgt := 93) hx hb dX1_findType_88 (by decide) (fun c88 => ?_) (fun c88 => ?_)
            · refine lv_iinc (v := nI (t + 1)) (lv' := [(3, .int (nI (t + 1))), (5, .int 0), (4, .int 0), (0, .ref g0), (1, .int x1), (2, .int (nI N))]) hx hb dX1_findType_93 hl (k := 2) rfl (nI_1 t) (by decide) rfl (fun ls hl => ?_)
              refine lv_goto (tgt := 2) hx hb dX1_findType_96 (by decide) ?_
              exact iho (t + 1) (by omega) (by rw [← he, fnd, if_neg (by rw [fQ, decide_eq_false c17]; simp)]) ls (lv_sub hl [0, 3, 4, 5] rfl)
            · exact absurd rfl c88
          · exact absurd rfl c48
      · refine lv_aload_n hx hb dX1_findType_20 rfl (lv_at hl 1 rfl) ?_
        refine va_get (D := (dC, dI)) (ci := 1) (v := .ref gm) (C := RX1) (T := TX1) (N := 13) hx hb hts hin hown hK hP 0 rfl rfl 3 (by decide) (hts _ (List.mem_cons_of_mem _ tk_fl_16)) (fun _ h9 => h9) rfl dX1_findType_21 ?_
        refine lv_iload_n hx hb dX1_findType_24 rfl (lv_at hl 0 rfl) ?_
        refine va_iald hx hb hK hP 3 0 rfl rfl (vp_in_nI (by omega) (by decide)) dX1_findType_25 ?_
        refine kv_topi (y := tm t) (by rw [nI_clamp (by omega)]) ?_
        refine lv_iload_n hx hb dX1_findType_26 rfl (lv_at hl 3 rfl) ?_
        refine lv_icmp_ne (tgt := 34) hx hb dX1_findType_27 (by decide) (fun c27 => ?_) (fun c27 => ?_)
        · refine lv_iconst (v := 0) hx hb dX1_findType_34 (by decide) ?_
          refine lv_istore (lv' := [(4, .int 0), (3, .int (nI t)), (0, .ref g0), (1, .int x1), (2, .int (nI N))]) hx hb dX1_findType_35 hl (by decide) rfl (fun ls hl => ?_)
          refine lv_iconst (v := 0) hx hb dX1_findType_37 (by decide) ?_
          refine lv_istore (lv' := [(5, .int 0), (4, .int 0), (3, .int (nI t)), (0, .ref g0), (1, .int x1), (2, .int (nI N))]) hx hb dX1_findType_38 hl (by decide) rfl (fun ls hl => ?_)
          refine lv_iload hx hb dX1_findType_40 (lv_at hl 0 rfl) ?_
          refine lv_iload_n hx hb dX1_findType_42 rfl (lv_at hl 5 rfl) ?_
          refine lv_icmp_ge (tgt := 86) hx hb dX1_findType_43 (by decide) (fun c43 => ?_) (fun c43 => ?_)
          · refine lv_iload hx hb dX1_findType_86 (lv_at hl 1 rfl) ?_
            refine lv_if_eq (tgt := 93) hx hb dX1_findType_88 (by decide) (fun c88 => ?_) (fun c88 => ?_)
            · refine lv_iinc (v := nI (t + 1)) (lv' := [(3, .int (nI (t + 1))), (5, .int 0), (4, .int 0), (0, .ref g0), (1, .int x1), (2, .int (nI N))]) hx hb dX1_findType_93 hl (k := 2) rfl (nI_1 t) (by decide) rfl (fun ls hl => ?_)
              refine lv_goto (tgt := 2) hx hb dX1_findType_96 (by decide) ?_
              exact iho (t + 1) (by omega) (by rw [← he, fnd, if_neg (by rw [fQ, decide_eq_false c27]; simp)]) ls (lv_sub hl [0, 3, 4, 5] rfl)
            · exact absurd rfl c88
          · refine lv_iload hx hb dX1_findType_46 (lv_at hl 1 rfl) ?_
            refine lv_if_eq (tgt := 86) hx hb dX1_findType_48 (by decide) (fun c48 => ?_) (fun c48 => ?_)
            · refine lv_iload hx hb dX1_findType_86 (lv_at hl 1 rfl) ?_
              refine lv_if_eq (tgt := 93) hx hb dX1_findType_88 (by decide) (fun c88 => ?_) (fun c88 => ?_)
              · refine lv_iinc (v := nI (t + 1)) (lv' := [(3, .int (nI (t + 1))), (5, .int 0), (4, .int 0), (0, .ref g0), (1, .int x1), (2, .int (nI N))]) hx hb dX1_findType_93 hl (k := 2) rfl (nI_1 t) (by decide) rfl (fun ls hl => ?_)
                refine lv_goto (tgt := 2) hx hb dX1_findType_96 (by decide) ?_
                exact iho (t + 1) (by omega) (by rw [← he, fnd, if_neg (by rw [fQ, decide_eq_false c27]; simp)]) ls (lv_sub hl [0, 3, 4, 5] rfl)
              · exact absurd rfl c88
            · exact absurd rfl c48
        · refine lv_iconst (v := 1) hx hb dX1_findType_30 (by decide) ?_
          refine lv_goto (tgt := 35) hx hb dX1_findType_31 (by decide) ?_
          refine lv_istore (lv' := [(4, .int 1), (3, .int (nI t)), (0, .ref g0), (1, .int x1), (2, .int (nI N))]) hx hb dX1_findType_35 hl (by decide) rfl (fun ls hl => ?_)
          refine lv_iconst (v := 0) hx hb dX1_findType_37 (by decide) ?_
          refine lv_istore (lv' := [(5, .int 0), (4, .int 1), (3, .int (nI t)), (0, .ref g0), (1, .int x1), (2, .int (nI N))]) hx hb dX1_findType_38 hl (by decide) rfl (fun ls hl => ?_)
          suffices iloop : ∀ (n2 k : Nat) (b : Bool), k + n2 = N → b = mall (fun k => decide (tp (10 * t + k) = np k)) k → ∀ (ls : Array Slot), lv_has ls 6 [(5, .int (nI k)), (4, .int (bI b)), (3, .int (nI t)), (0, .ref g0), (1, .int x1), (2, .int (nI N))] → W p l e (headSpec wsZ1_findType ({ frames := 0, cells := 0, slots := 0, locals := 0 })).room s m ([.ref g0, .int x1, .int (nI N)] : List Value).toArray below meth c s.heap [] 0 0 (MQ below (k2_QcV (.int (oI (fnd (fQ tr tm tp np x1 N) mt 0)))) ([.ref g0, .int x1, .int (nI N)] : List Value).toArray s 0 0 kNo) (F0 m 40 ls []) by
            exact iloop N 0 true (by omega) rfl ls (lv_sub hl [0, 1, 2, 3, 4, 5] rfl)
          intro n2
          induction n2 with
          | zero =>
            intro k b hd hfb ls hl
            obtain rfl : N = k := by omega
            refine lv_iload hx hb dX1_findType_40 (lv_at hl 0 rfl) ?_
            refine lv_iload_n hx hb dX1_findType_42 rfl (lv_at hl 5 rfl) ?_
            refine lv_icmp_ge (tgt := 86) hx hb dX1_findType_43 (by decide) (fun c43 => ?_) (fun c43 => ?_)
            · refine lv_iload hx hb dX1_findType_86 (lv_at hl 1 rfl) ?_
              refine lv_if_eq (tgt := 93) hx hb dX1_findType_88 (by decide) (fun c88 => ?_) (fun c88 => ?_)
              · refine lv_iinc (v := nI (t + 1)) (lv' := [(3, .int (nI (t + 1))), (5, .int (nI N)), (4, .int (bI b)), (0, .ref g0), (1, .int x1), (2, .int (nI N))]) hx hb dX1_findType_93 hl (k := 2) rfl (nI_1 t) (by decide) rfl (fun ls hl => ?_)
                refine lv_goto (tgt := 2) hx hb dX1_findType_96 (by decide) ?_
                exact iho (t + 1) (by omega) (by rw [← he, fnd, if_neg (by rw [fQ, ← hfb, bI_e0 c88]; simp)]) ls (lv_sub hl [0, 3, 4, 5] rfl)
              · refine lv_iload_n hx hb dX1_findType_91 rfl (lv_at hl 2 rfl) ?_
                exact W.iret hx hb hr (fun t ht hW => ⟨by rw [← he, fnd, if_pos (by rw [fQ, ← hfb, decide_eq_true c17, decide_eq_true c27, bI_n0 c88] <;> rfl)] <;> rfl, ht⟩) (fun _ h => by cases h) dX1_findType_92
            · exact absurd (nI_le (Nat.le_refl _) (by omega)) c43
          | succ n2 ih =>
            intro k b hd hfb ls hl
            refine lv_iload hx hb dX1_findType_40 (lv_at hl 0 rfl) ?_
            refine lv_iload_n hx hb dX1_findType_42 rfl (lv_at hl 5 rfl) ?_
            refine lv_icmp_ge (tgt := 86) hx hb dX1_findType_43 (by decide) (fun c43 => ?_) (fun c43 => ?_)
            · exact absurd ((nI_leI (by omega) (by omega)).mp c43) (by omega)
            · refine lv_iload hx hb dX1_findType_46 (lv_at hl 1 rfl) ?_
              refine lv_if_eq (tgt := 86) hx hb dX1_findType_48 (by decide) (fun c48 => ?_) (fun c48 => ?_)
              · refine lv_iload hx hb dX1_findType_86 (lv_at hl 1 rfl) ?_
                refine lv_if_eq (tgt := 93) hx hb dX1_findType_88 (by decide) (fun c88 => ?_) (fun c88 => ?_)
                · refine lv_iinc (v := nI (t + 1)) (lv' := [(3, .int (nI (t + 1))), (5, .int (nI k)), (4, .int (bI b)), (0, .ref g0), (1, .int x1), (2, .int (nI N))]) hx hb dX1_findType_93 hl (k := 2) rfl (nI_1 t) (by decide) rfl (fun ls hl => ?_)
                  refine lv_goto (tgt := 2) hx hb dX1_findType_96 (by decide) ?_
                  exact iho (t + 1) (by omega) (by rw [← he, fnd, if_neg (by rw [fQ, mall_mono (d := k) (by omega) (by rw [← hfb, bI_e0 c48])]; simp)]) ls (lv_sub hl [0, 3, 4, 5] rfl)
                · exact absurd c48 c88
              · refine lv_aload_n hx hb dX1_findType_51 rfl (lv_at hl 3 rfl) ?_
                refine va_get (D := (dC, dI)) (ci := 1) (v := .ref gl) (C := RX1) (T := TX1) (N := 13) hx hb hts hin hown hK hP 0 rfl rfl 4 (by decide) (hts _ (List.mem_cons_of_mem _ tk_fl_19)) (fun _ h9 => h9) rfl dX1_findType_52 ?_
                refine lv_bipush (v := 10) hx hb dX1_findType_55 (by decide) ?_
                refine lv_iload_n hx hb dX1_findType_57 rfl (lv_at hl 2 rfl) ?_
                refine lv_imul hx hb dX1_findType_58 ?_
                refine lv_iload hx hb dX1_findType_59 (lv_at hl 0 rfl) ?_
                refine lv_iadd hx hb dX1_findType_61 ?_
                refine kv_topi (y := nI (10 * t + k)) ix10 ?_
                refine va_iald hx hb hK hP 4 0 rfl rfl (vp_in_nI (by omega) (by decide)) dX1_findType_62 ?_
                refine kv_topi (y := tp (10 * t + k)) (by rw [nI_clamp (by omega)]) ?_
                refine lv_aload_n hx hb dX1_findType_63 rfl (lv_at hl 3 rfl) ?_
                refine va_get (D := (dC, dI)) (ci := 1) (v := .ref gn) (C := RX1) (T := TX1) (N := 13) hx hb hts hin hown hK hP 0 rfl rfl 10 (by decide) (hts _ (List.mem_cons_of_mem _ tk_fl_25)) (fun _ h9 => h9) rfl dX1_findType_64 ?_
                refine lv_iload hx hb dX1_findType_67 (lv_at hl 0 rfl) ?_
                refine va_iald hx hb hK hP 6 0 rfl rfl (vp_in_nI (by omega) (by decide)) dX1_findType_69 ?_
                refine kv_topi (y := np k) (by rw [nI_clamp (by omega)]) ?_
                refine lv_icmp_ne (tgt := 77) hx hb dX1_findType_70 (by decide) (fun c70 => ?_) (fun c70 => ?_)
                · refine lv_iconst (v := 0) hx hb dX1_findType_77 (by decide) ?_
                  refine lv_istore (lv' := [(4, .int 0), (5, .int (nI k)), (3, .int (nI t)), (0, .ref g0), (1, .int x1), (2, .int (nI N))]) hx hb dX1_findType_78 hl (by decide) rfl (fun ls hl => ?_)
                  refine lv_iinc (v := nI (k + 1)) (lv' := [(5, .int (nI (k + 1))), (4, .int 0), (3, .int (nI t)), (0, .ref g0), (1, .int x1), (2, .int (nI N))]) hx hb dX1_findType_80 hl (k := 1) rfl (nI_1 k) (by decide) rfl (fun ls hl => ?_)
                  refine lv_goto (tgt := 40) hx hb dX1_findType_83 (by decide) ?_
                  exact ih (k + 1) false (by omega) (by rw [mall, ← hfb, bI_n0 c48, decide_eq_false c70] <;> rfl) ls (lv_sub hl [0, 1, 2, 3, 4, 5] rfl)
                · refine lv_iconst (v := 1) hx hb dX1_findType_73 (by decide) ?_
                  refine lv_goto (tgt := 78) hx hb dX1_findType_74 (by decide) ?_
                  refine lv_istore (lv' := [(4, .int 1), (5, .int (nI k)), (3, .int (nI t)), (0, .ref g0), (1, .int x1), (2, .int (nI N))]) hx hb dX1_findType_78 hl (by decide) rfl (fun ls hl => ?_)
                  refine lv_iinc (v := nI (k + 1)) (lv' := [(5, .int (nI (k + 1))), (4, .int 1), (3, .int (nI t)), (0, .ref g0), (1, .int x1), (2, .int (nI N))]) hx hb dX1_findType_80 hl (k := 1) rfl (nI_1 k) (by decide) rfl (fun ls hl => ?_)
                  refine lv_goto (tgt := 40) hx hb dX1_findType_83 (by decide) ?_
                  exact ih (k + 1) true (by omega) (by rw [mall, ← hfb, bI_n0 c48, decide_eq_true c70] <;> rfl) ls (lv_sub hl [0, 1, 2, 3, 4, 5] rfl)
set_option maxHeartbeats 4000000 in
set_option maxRecDepth 100000 in
theorem cM_madeType (l : Launch) (dC : Nat → ClassId) (dI : Nat → Nat → Nat) (g0 gp gr gm gl gw gn : Nat) (cI : ClassId) (pv : Nat → Int32) (nc : Nat) (tr : Nat → Int32) (tm : Nat → Int32) (tp : Nat → Int32) (mt : Nat) (wv : Nat → Int32) (nw : Nat) (re : Int32) (nm : Nat) (np : Nat → Int32) (kk : Int32) (kn : Int64) (hmt : mt ≤ 300) (hnm : nm ≤ 32) : Met l yX1_madeType wsZ1_madeType ({ frames := 1, cells := 0, slots := 0, locals := 25 }) (kPw (dC, dI) vwCl [(cI, .int)] (mW g0 gp gr gm gl gw gn cI pv nc tr tm tp mt wv nw re nm np kk kn) [.ref g0]) (kQw (dC, dI) vwCl (some (.int (if nm ≤ 10 then nbR (fnd (fQ tr tm tp np re nm) mt 0) mt else (-1 : Int32)))) (mW g0 gp gr gm gl gw gn cI pv nc (if nm ≤ 10 then nbV (fnd (fQ tr tm tp np re nm) mt 0) mt tr (upd tr mt re) else tr) (if nm ≤ 10 then nbV (fnd (fQ tr tm tp np re nm) mt 0) mt tm (upd tm mt (nI nm)) else tm) (if nm ≤ 10 then nbV (fnd (fQ tr tm tp np re nm) mt 0) mt tp (tpC tp np mt nm) else tp) (if nm ≤ 10 then nbN (fnd (fQ tr tm tp np re nm) mt 0) mt else mt) wv nw re nm np kk kn) [g0, gp, gr, gm, gl, gw, gn]) 0 0 (fun q => q ∈ [g0, gp, gr, gm, gl, gw, gn]) := by
  refine Met.ofW (cc := cX1_madeType) (maxL := 3) (ret := (some .int)) (by decide) rfl ?_
  intro p e s m args below meth c s₁ B hml hv
  obtain ⟨rfl, hP, hK, hD0⟩ := hv
  have hx := B.exec
  have hb := B.bytes
  have hr := B.returns
  have hts := atoms_spec (ws := wsZ1_madeType) B.pre
  have hown : s.vm.findClass RX1 = some m.cls := findClass_of_methodNamed B.named
  have hlocks := B.notSynchronized
  have hin : ∀ w ∈ u_ws RX1 TX1 13, w ∈ wsZ1_madeType := fun w h => List.mem_cons_of_mem _ (inZ1 w h)
  have hD : va_D (fun q => q ∈ [g0, gp, gr, gm, gl, gw, gn]) (mW g0 gp gr gm gl gw gn cI pv nc tr tm tp mt wv nw re nm np kk kn) := kD_self hD0 rfl
  have hS : va_S (fun q => q ∈ [g0, gp, gr, gm, gl, gw, gn]) s.heap s.heap [] := va_S.rf
  have hl := lv_entry ([.ref g0]) (n := 3) (Nat.le_of_ble_eq_true rfl)
  rw [lg_entry_eq]
  generalize (lg_sl ([.ref g0]) ++ List.replicate (3 - (lg_sl ([.ref g0])).length) Slot.unset).toArray = ls at hl ⊢
  have hl : lv_has ls 3 [(0, .ref g0)] := hl
  refine lv_aload_n hx hb dX1_madeType_0 rfl (lv_at hl 0 rfl) ?_
  refine va_get (D := (dC, dI)) (ci := 1) (v := .int (nI nm)) (C := RX1) (T := TX1) (N := 13) hx hb hts hin hown hK hP 0 rfl rfl 9 (by decide) (hts _ (List.mem_cons_of_mem _ tk_fl_54)) (fun _ h9 => h9) rfl dX1_madeType_1 ?_
  refine lv_bipush (v := 10) hx hb dX1_madeType_4 (by decide) ?_
  refine lv_icmp_le (tgt := 11) hx hb dX1_madeType_6 (by decide) (fun c6 => ?_) (fun c6 => ?_)
  · refine lv_aload_n hx hb dX1_madeType_11 rfl (lv_at hl 0 rfl) ?_
    refine lv_aload_n hx hb dX1_madeType_12 rfl (lv_at hl 0 rfl) ?_
    refine va_get (D := (dC, dI)) (ci := 1) (v := .int re) (C := RX1) (T := TX1) (N := 13) hx hb hts hin hown hK hP 0 rfl rfl 8 (by decide) (hts _ (List.mem_cons_of_mem _ tk_fl_57)) (fun _ h9 => h9) rfl dX1_madeType_13 ?_
    refine lv_aload_n hx hb dX1_madeType_16 rfl (lv_at hl 0 rfl) ?_
    refine va_get (D := (dC, dI)) (ci := 1) (v := .int (nI nm)) (C := RX1) (T := TX1) (N := 13) hx hb hts hin hown hK hP 0 rfl rfl 9 (by decide) (hts _ (List.mem_cons_of_mem _ tk_fl_54)) (fun _ h9 => h9) rfl dX1_madeType_17 ?_
    refine kc_R [.int re, .int (nI nm)] [] ⟨hx, hb, hml, hown, hts⟩ (cM_findType l dC dI g0 gp gr gm gl gw gn cI pv nc tr tm tp mt wv nw re nm np kk kn re nm hmt (mnm hnm c6)) (cwV 2 hts gZ_madeType_findType rfl rfl rfl (by decide +kernel) ⟨(Nat.le_of_ble_eq_true rfl), (Nat.le_of_ble_eq_true rfl)⟩) hP hK (ci := 1) (q0 := 0) rfl rfl rfl rfl hl.1 rfl (Nat.le_of_ble_eq_true rfl) dX1_madeType_20 ⟨Nat.zero_le _, Nat.zero_le _⟩ ?_
    refine lv_istore_n (lv' := [(1, .int (oI (fnd (fQ tr tm tp np re nm) mt 0))), (0, .ref g0)]) hx hb dX1_madeType_23 rfl hl (by decide) rfl (fun ls hl => ?_)
    refine lv_iload_n hx hb dX1_madeType_24 rfl (lv_at hl 0 rfl) ?_
    refine lv_iconst (v := -1) hx hb dX1_madeType_25 (by decide) ?_
    refine lv_icmp_ne (tgt := 39) hx hb dX1_madeType_26 (by decide) (fun c26 => ?_) (fun c26 => ?_)
    · obtain ⟨z, hz⟩ := oI_some c26
      refine lv_iload_n hx hb dX1_madeType_39 rfl (lv_at hl 0 rfl) ?_
      exact W.iret hx hb hr (fun t ht hW => ⟨by rw [if_pos (mnm hnm c6), hz] <;> rfl, by rw [ht]; simp only [if_pos (mnm hnm c6), hz]; exact hP, hS.F ht⟩) hS.2.2 dX1_madeType_40
    · have ho : (fnd (fQ tr tm tp np re nm) mt 0) = none := oI_none hmt c26
      refine lv_aload_n hx hb dX1_madeType_29 rfl (lv_at hl 1 rfl) ?_
      refine va_get (D := (dC, dI)) (ci := 1) (v := .int (nI mt)) (C := RX1) (T := TX1) (N := 13) hx hb hts hin hown hK hP 0 rfl rfl 5 (by decide) (hts _ (List.mem_cons_of_mem _ tk_fl_51)) (fun _ h9 => h9) rfl dX1_madeType_30 ?_
      refine lv_sipush (v := 300) hx hb dX1_madeType_33 (by decide) ?_
      refine lv_icmp_ne (tgt := 41) hx hb dX1_madeType_36 (by decide) (fun c36 => ?_) (fun c36 => ?_)
      · have hm300 : mt < 300 := by have h3 : ¬ mt = 300 := (fun q : mt = 300 => c36 (by rw [q]; rfl)); omega
        have hnm10 : nm ≤ 10 := (mnm hnm c6)
        refine lv_aload_n hx hb dX1_madeType_41 rfl (lv_at hl 1 rfl) ?_
        refine va_get (D := (dC, dI)) (ci := 1) (v := .ref gr) (C := RX1) (T := TX1) (N := 13) hx hb hts hin hown hK hP 0 rfl rfl 2 (by decide) (hts _ (List.mem_cons_of_mem _ tk_fl_13)) (fun _ h9 => h9) rfl dX1_madeType_42 ?_
        refine lv_aload_n hx hb dX1_madeType_45 rfl (lv_at hl 1 rfl) ?_
        refine va_get (D := (dC, dI)) (ci := 1) (v := .int (nI mt)) (C := RX1) (T := TX1) (N := 13) hx hb hts hin hown hK hP 0 rfl rfl 5 (by decide) (hts _ (List.mem_cons_of_mem _ tk_fl_51)) (fun _ h9 => h9) rfl dX1_madeType_46 ?_
        refine lv_aload_n hx hb dX1_madeType_49 rfl (lv_at hl 1 rfl) ?_
        refine va_get (D := (dC, dI)) (ci := 1) (v := .int re) (C := RX1) (T := TX1) (N := 13) hx hb hts hin hown hK hP 0 rfl rfl 8 (by decide) (hts _ (List.mem_cons_of_mem _ tk_fl_57)) (fun _ h9 => h9) rfl dX1_madeType_50 ?_
        refine va_iast hx hb hK hP hD hS 2 0 rfl rfl (vp_in_nI hm300 (by decide)) dX1_madeType_53 (fun H locs hP hD hS => ?_)
        have e_as : upd tr (nI mt).toNatClampNeg re = upd tr mt re := by rw [nI_clamp (by omega)]
        have hP : va_P (dC, dI) vwCl (mW g0 gp gr gm gl gw gn cI pv nc (upd tr mt re) tm tp mt wv nw re nm np kk kn) H := by rw [← e_as]; exact hP
        have hD : va_D (fun q => q ∈ [g0, gp, gr, gm, gl, gw, gn]) (mW g0 gp gr gm gl gw gn cI pv nc (upd tr mt re) tm tp mt wv nw re nm np kk kn) := by rw [← e_as]; exact hD
        refine lv_aload_n hx hb dX1_madeType_54 rfl (lv_at hl 1 rfl) ?_
        refine va_get (D := (dC, dI)) (ci := 1) (v := .ref gm) (C := RX1) (T := TX1) (N := 13) hx hb hts hin hown hK hP 0 rfl rfl 3 (by decide) (hts _ (List.mem_cons_of_mem _ tk_fl_16)) (fun _ h9 => h9) rfl dX1_madeType_55 ?_
        refine lv_aload_n hx hb dX1_madeType_58 rfl (lv_at hl 1 rfl) ?_
        refine va_get (D := (dC, dI)) (ci := 1) (v := .int (nI mt)) (C := RX1) (T := TX1) (N := 13) hx hb hts hin hown hK hP 0 rfl rfl 5 (by decide) (hts _ (List.mem_cons_of_mem _ tk_fl_51)) (fun _ h9 => h9) rfl dX1_madeType_59 ?_
        refine lv_aload_n hx hb dX1_madeType_62 rfl (lv_at hl 1 rfl) ?_
        refine va_get (D := (dC, dI)) (ci := 1) (v := .int (nI nm)) (C := RX1) (T := TX1) (N := 13) hx hb hts hin hown hK hP 0 rfl rfl 9 (by decide) (hts _ (List.mem_cons_of_mem _ tk_fl_54)) (fun _ h9 => h9) rfl dX1_madeType_63 ?_
        refine va_iast hx hb hK hP hD hS 3 0 rfl rfl (vp_in_nI hm300 (by decide)) dX1_madeType_66 (fun H locs hP hD hS => ?_)
        have e_as : upd tm (nI mt).toNatClampNeg (nI nm) = upd tm mt (nI nm) := by rw [nI_clamp (by omega)]
        have hP : va_P (dC, dI) vwCl (mW g0 gp gr gm gl gw gn cI pv nc (upd tr mt re) (upd tm mt (nI nm)) tp mt wv nw re nm np kk kn) H := by rw [← e_as]; exact hP
        have hD : va_D (fun q => q ∈ [g0, gp, gr, gm, gl, gw, gn]) (mW g0 gp gr gm gl gw gn cI pv nc (upd tr mt re) (upd tm mt (nI nm)) tp mt wv nw re nm np kk kn) := by rw [← e_as]; exact hD
        refine lv_iconst (v := 0) hx hb dX1_madeType_67 (by decide) ?_
        refine lv_istore_n (lv' := [(2, .int 0), (1, .int (oI (fnd (fQ tr tm tp np re nm) mt 0))), (0, .ref g0)]) hx hb dX1_madeType_68 rfl hl (by decide) rfl (fun ls hl => ?_)
        suffices loop : ∀ (n k : Nat), k + n = nm → ∀ (H : Heap) (locs : List Loc), va_P (dC, dI) vwCl (mW g0 gp gr gm gl gw gn cI pv nc (upd tr mt re) (upd tm mt (nI nm)) (tpC tp np mt k) mt wv nw re nm np kk kn) H → va_D (fun q => q ∈ [g0, gp, gr, gm, gl, gw, gn]) (mW g0 gp gr gm gl gw gn cI pv nc (upd tr mt re) (upd tm mt (nI nm)) (tpC tp np mt k) mt wv nw re nm np kk kn) → va_S (fun q => q ∈ [g0, gp, gr, gm, gl, gw, gn]) s.heap H locs → ∀ (ls : Array Slot), lv_has ls 3 [(2, .int (nI k)), (1, .int (oI (fnd (fQ tr tm tp np re nm) mt 0))), (0, .ref g0)] → W p l e (headSpec wsZ1_madeType ({ frames := 1, cells := 0, slots := 0, locals := 25 })).room s m ([.ref g0] : List Value).toArray below meth c H locs 0 0 (MQ below (kQw (dC, dI) vwCl (some (.int (if nm ≤ 10 then nbR (fnd (fQ tr tm tp np re nm) mt 0) mt else (-1 : Int32)))) (mW g0 gp gr gm gl gw gn cI pv nc (if nm ≤ 10 then nbV (fnd (fQ tr tm tp np re nm) mt 0) mt tr (upd tr mt re) else tr) (if nm ≤ 10 then nbV (fnd (fQ tr tm tp np re nm) mt 0) mt tm (upd tm mt (nI nm)) else tm) (if nm ≤ 10 then nbV (fnd (fQ tr tm tp np re nm) mt 0) mt tp (tpC tp np mt nm) else tp) (if nm ≤ 10 then nbN (fnd (fQ tr tm tp np re nm) mt 0) mt else mt) wv nw re nm np kk kn) [g0, gp, gr, gm, gl, gw, gn]) ([.ref g0] : List Value).toArray s 0 0 (fun q => q ∈ [g0, gp, gr, gm, gl, gw, gn])) (F0 m 69 ls []) by
          exact loop nm 0 (by omega) H locs (by rw [tpC_0]; exact hP) (by rw [tpC_0]; exact hD) hS ls (lv_sub hl [0, 1, 2] rfl)
        intro n
        induction n with
        | zero =>
          intro k hk H locs hP hD hS ls hl
          obtain rfl : nm = k := by omega
          refine lv_iload_n hx hb dX1_madeType_69 rfl (lv_at hl 0 rfl) ?_
          refine lv_aload_n hx hb dX1_madeType_70 rfl (lv_at hl 2 rfl) ?_
          refine va_get (D := (dC, dI)) (ci := 1) (v := .int (nI nm)) (C := RX1) (T := TX1) (N := 13) hx hb hts hin hown hK hP 0 rfl rfl 9 (by decide) (hts _ (List.mem_cons_of_mem _ tk_fl_54)) (fun _ h9 => h9) rfl dX1_madeType_71 ?_
          refine lv_icmp_ge (tgt := 103) hx hb dX1_madeType_74 (by decide) (fun c74 => ?_) (fun c74 => ?_)
          · refine lv_aload_n hx hb dX1_madeType_103 rfl (lv_at hl 2 rfl) ?_
            refine lv_dup hx hb dX1_madeType_104 rfl ?_
            refine va_get (D := (dC, dI)) (ci := 1) (v := .int (nI mt)) (C := RX1) (T := TX1) (N := 13) hx hb hts hin hown hK hP 0 rfl rfl 5 (by decide) (hts _ (List.mem_cons_of_mem _ tk_fl_51)) (fun _ h9 => h9) rfl dX1_madeType_105 ?_
            refine lv_iconst (v := 1) hx hb dX1_madeType_108 (by decide) ?_
            refine lv_iadd hx hb dX1_madeType_109 ?_
            refine kv_topi (y := nI (mt + 1)) (nI_1 mt) ?_
            refine va_put (D := (dC, dI)) (ci := 1) (v := .int (nI (mt + 1))) (ty := .int) (C := RX1) (T := TX1) (N := 13) hx hb hts hin tyX1 tyX1_ok nmX1 hown hK hP hD hS 0 rfl rfl 5 (by decide) (hts _ (List.mem_cons_of_mem _ tk_fl_51)) (fun _ h9 => h9) rfl (by decide +kernel) rfl rfl (Nat.le_of_ble_eq_true rfl) dX1_madeType_110 (fun H locs hP hD hS => ?_)
            have hP : va_P (dC, dI) vwCl (mW g0 gp gr gm gl gw gn cI pv nc (upd tr mt re) (upd tm mt (nI nm)) (tpC tp np mt nm) (mt + 1) wv nw re nm np kk kn) H := hP
            have hD : va_D _ (mW g0 gp gr gm gl gw gn cI pv nc (upd tr mt re) (upd tm mt (nI nm)) (tpC tp np mt nm) (mt + 1) wv nw re nm np kk kn) := hD
            refine lv_aload_n hx hb dX1_madeType_113 rfl (lv_at hl 2 rfl) ?_
            refine va_get (D := (dC, dI)) (ci := 1) (v := .int (nI (mt + 1))) (C := RX1) (T := TX1) (N := 13) hx hb hts hin hown hK hP 0 rfl rfl 5 (by decide) (hts _ (List.mem_cons_of_mem _ tk_fl_51)) (fun _ h9 => h9) rfl dX1_madeType_114 ?_
            refine lv_iconst (v := 1) hx hb dX1_madeType_117 (by decide) ?_
            refine lv_isub hx hb dX1_madeType_118 ?_
            refine kv_topi (y := nI mt) (nI_pred mt) ?_
            exact W.iret hx hb hr (fun t ht hW => ⟨by rw [if_pos (mnm hnm c6), ho, nbR_n (fun q : mt = 300 => c36 (by rw [q]; rfl))] <;> rfl, by rw [ht]; simp only [if_pos (mnm hnm c6), ho, nbV_n (fun q : mt = 300 => c36 (by rw [q]; rfl)), nbN_n (fun q : mt = 300 => c36 (by rw [q]; rfl))]; exact hP, hS.F ht⟩) hS.2.2 dX1_madeType_119
          · exact absurd (nI_le (by omega) (by omega)) c74
        | succ n ih =>
          intro k hk H locs hP hD hS ls hl
          refine lv_iload_n hx hb dX1_madeType_69 rfl (lv_at hl 0 rfl) ?_
          refine lv_aload_n hx hb dX1_madeType_70 rfl (lv_at hl 2 rfl) ?_
          refine va_get (D := (dC, dI)) (ci := 1) (v := .int (nI nm)) (C := RX1) (T := TX1) (N := 13) hx hb hts hin hown hK hP 0 rfl rfl 9 (by decide) (hts _ (List.mem_cons_of_mem _ tk_fl_54)) (fun _ h9 => h9) rfl dX1_madeType_71 ?_
          refine lv_icmp_ge (tgt := 103) hx hb dX1_madeType_74 (by decide) (fun c74 => ?_) (fun c74 => ?_)
          · exact absurd ((nI_leI (by omega) (by omega)).mp c74) (by omega)
          · refine lv_aload_n hx hb dX1_madeType_77 rfl (lv_at hl 2 rfl) ?_
            refine va_get (D := (dC, dI)) (ci := 1) (v := .ref gl) (C := RX1) (T := TX1) (N := 13) hx hb hts hin hown hK hP 0 rfl rfl 4 (by decide) (hts _ (List.mem_cons_of_mem _ tk_fl_19)) (fun _ h9 => h9) rfl dX1_madeType_78 ?_
            refine lv_bipush (v := 10) hx hb dX1_madeType_81 (by decide) ?_
            refine lv_aload_n hx hb dX1_madeType_83 rfl (lv_at hl 2 rfl) ?_
            refine va_get (D := (dC, dI)) (ci := 1) (v := .int (nI mt)) (C := RX1) (T := TX1) (N := 13) hx hb hts hin hown hK hP 0 rfl rfl 5 (by decide) (hts _ (List.mem_cons_of_mem _ tk_fl_51)) (fun _ h9 => h9) rfl dX1_madeType_84 ?_
            refine lv_imul hx hb dX1_madeType_87 ?_
            refine lv_iload_n hx hb dX1_madeType_88 rfl (lv_at hl 0 rfl) ?_
            refine lv_iadd hx hb dX1_madeType_89 ?_
            refine kv_topi (y := nI (10 * mt + k)) ix10 ?_
            refine lv_aload_n hx hb dX1_madeType_90 rfl (lv_at hl 2 rfl) ?_
            refine va_get (D := (dC, dI)) (ci := 1) (v := .ref gn) (C := RX1) (T := TX1) (N := 13) hx hb hts hin hown hK hP 0 rfl rfl 10 (by decide) (hts _ (List.mem_cons_of_mem _ tk_fl_25)) (fun _ h9 => h9) rfl dX1_madeType_91 ?_
            refine lv_iload_n hx hb dX1_madeType_94 rfl (lv_at hl 0 rfl) ?_
            refine va_iald hx hb hK hP 6 0 rfl rfl (vp_in_nI (by omega) (by decide)) dX1_madeType_95 ?_
            refine kv_topi (y := np k) (by rw [nI_clamp (by omega)]) ?_
            refine va_iast hx hb hK hP hD hS 4 0 rfl rfl (vp_in_nI (by omega) (by decide)) dX1_madeType_96 (fun H locs hP hD hS => ?_)
            have e_as : upd (tpC tp np mt k) (nI (10 * mt + k)).toNatClampNeg (np k) = tpC tp np mt (k + 1) := tpC_s (by omega)
            have hP : va_P (dC, dI) vwCl (mW g0 gp gr gm gl gw gn cI pv nc (upd tr mt re) (upd tm mt (nI nm)) (tpC tp np mt (k + 1)) mt wv nw re nm np kk kn) H := by rw [← e_as]; exact hP
            have hD : va_D (fun q => q ∈ [g0, gp, gr, gm, gl, gw, gn]) (mW g0 gp gr gm gl gw gn cI pv nc (upd tr mt re) (upd tm mt (nI nm)) (tpC tp np mt (k + 1)) mt wv nw re nm np kk kn) := by rw [← e_as]; exact hD
            refine lv_iinc (v := nI (k + 1)) (lv' := [(2, .int (nI (k + 1))), (1, .int (oI (fnd (fQ tr tm tp np re nm) mt 0))), (0, .ref g0)]) hx hb dX1_madeType_97 hl (k := 0) rfl (nI_1 k) (by decide) rfl (fun ls hl => ?_)
            refine lv_goto (tgt := 69) hx hb dX1_madeType_100 (by decide) ?_
            exact ih (k + 1) (by omega) _ _ hP hD hS ls (lv_sub hl [0, 1, 2] rfl)
      · refine lv_iload_n hx hb dX1_madeType_39 rfl (lv_at hl 0 rfl) ?_
        exact W.iret hx hb hr (fun t ht hW => ⟨by rw [if_pos (mnm hnm c6), ho, nbR_f (show mt = 300 from (nI_eq (b := 300) (by omega) (by decide)).mp c36)] <;> rfl, by rw [ht]; simp only [if_pos (mnm hnm c6), ho, nbV_f (show mt = 300 from (nI_eq (b := 300) (by omega) (by decide)).mp c36), nbN_f (show mt = 300 from (nI_eq (b := 300) (by omega) (by decide)).mp c36)]; exact hP, hS.F ht⟩) hS.2.2 dX1_madeType_40
  · refine lv_iconst (v := -1) hx hb dX1_madeType_9 (by decide) ?_
    exact W.iret hx hb hr (fun t ht hW => ⟨by rw [if_neg (mnmF c6)] <;> rfl, by rw [ht]; simp only [if_neg (mnmF c6)]; exact hP, hS.F ht⟩) hS.2.2 dX1_madeType_10
set_option maxHeartbeats 4000000 in
set_option maxRecDepth 100000 in
theorem cM_mayBe (l : Launch) (dC : Nat → ClassId) (dI : Nat → Nat → Nat) (g0 gp gr gm gl gw gn : Nat) (cI : ClassId) (pv : Nat → Int32) (nc : Nat) (tr : Nat → Int32) (tm : Nat → Int32) (tp : Nat → Int32) (mt : Nat) (wv : Nat → Int32) (nw : Nat) (re : Int32) (nm : Nat) (np : Nat → Int32) (kk : Int32) (kn : Int64) (bl : Nat → Nat → Bool) (pr : Nat → Nat) (tM : Nat → Nat) (x1 : Int32) (x2 : Int32) (x3 : Bool) (hPV : kPV pv pr nc) (hBL : kBL bl pr nc) (hnc : nc ≤ 12) (hmt : mt ≤ 300) (hTM : kTM tm tM mt) (hTP : kTP tr tp tM mt) : Met l yX1_mayBe wsZ1_mayBe ({ frames := 3, cells := 0, slots := 0, locals := 67 }) (kPr (dC, dI) vwCl [(cI, .int)] (mW g0 gp gr gm gl gw gn cI pv nc tr tm tp mt wv nw re nm np kk kn) [.ref g0, .int x1, .int x2, .int (bI x3)]) (k2_QcV (.int (bI (fM_mayBe tr tm tp mt bl x1 x2 x3)))) 0 0 kNo := by
  refine Met.ofW (cc := cX1_mayBe) (maxL := 5) (ret := (some .boolean)) (by decide) rfl ?_
  intro p e s m args below meth c s₁ B hml hv
  obtain ⟨rfl, hP, hK⟩ := hv
  have hx := B.exec
  have hb := B.bytes
  have hr := B.returns
  have hts := atoms_spec (ws := wsZ1_mayBe) B.pre
  have hown : s.vm.findClass RX1 = some m.cls := findClass_of_methodNamed B.named
  have hlocks := B.notSynchronized
  have hin : ∀ w ∈ u_ws RX1 TX1 13, w ∈ wsZ1_mayBe := fun w h => List.mem_cons_of_mem _ (inZ1 w h)
  have hl := lv_entry ([.ref g0, .int x1, .int x2, .int (bI x3)]) (n := 5) (Nat.le_of_ble_eq_true rfl)
  rw [lg_entry_eq]
  generalize (lg_sl ([.ref g0, .int x1, .int x2, .int (bI x3)]) ++ List.replicate (5 - (lg_sl ([.ref g0, .int x1, .int x2, .int (bI x3)])).length) Slot.unset).toArray = ls at hl ⊢
  have hl : lv_has ls 5 [(0, .ref g0), (1, .int x1), (2, .int x2), (3, .int (bI x3))] := hl
  refine lv_aload_n hx hb dX1_mayBe_0 rfl (lv_at hl 0 rfl) ?_
  refine lv_iload_n hx hb dX1_mayBe_1 rfl (lv_at hl 1 rfl) ?_
  refine kc_R [.int x1] [] ⟨hx, hb, hml, hown, hts⟩ (cM_isType l dC dI g0 gp gr gm gl gw gn cI pv nc tr tm tp mt wv nw re nm np kk kn x1) (cwV 1 hts gZ_mayBe_isType rfl rfl rfl (by decide +kernel) ⟨(Nat.le_of_ble_eq_true rfl), (Nat.le_of_ble_eq_true rfl)⟩) hP hK (ci := 1) (q0 := 0) rfl rfl rfl rfl hl.1 rfl (Nat.le_of_ble_eq_true rfl) dX1_mayBe_2 ⟨Nat.zero_le _, Nat.zero_le _⟩ ?_
  refine lv_if_eq (tgt := 31) hx hb dX1_mayBe_5 (by decide) (fun c5 => ?_) (fun c5 => ?_)
  · refine lv_iconst (v := 0) hx hb dX1_mayBe_31 (by decide) ?_
    exact W.zret hx hb hr rfl (fun t ht hW => ⟨by rw [fM_mayBe, if_pos c5] <;> rfl, ht⟩) (fun _ h => by cases h) dX1_mayBe_32
  · refine lv_aload_n hx hb dX1_mayBe_8 rfl (lv_at hl 0 rfl) ?_
    refine lv_iload_n hx hb dX1_mayBe_9 rfl (lv_at hl 2 rfl) ?_
    refine kc_R [.int x2] [] ⟨hx, hb, hml, hown, hts⟩ (cM_isType l dC dI g0 gp gr gm gl gw gn cI pv nc tr tm tp mt wv nw re nm np kk kn x2) (cwV 1 hts gZ_mayBe_isType rfl rfl rfl (by decide +kernel) ⟨(Nat.le_of_ble_eq_true rfl), (Nat.le_of_ble_eq_true rfl)⟩) hP hK (ci := 1) (q0 := 0) rfl rfl rfl rfl hl.1 rfl (Nat.le_of_ble_eq_true rfl) dX1_mayBe_10 ⟨Nat.zero_le _, Nat.zero_le _⟩ ?_
    refine lv_if_eq (tgt := 31) hx hb dX1_mayBe_13 (by decide) (fun c13 => ?_) (fun c13 => ?_)
    · refine lv_iconst (v := 0) hx hb dX1_mayBe_31 (by decide) ?_
      exact W.zret hx hb hr rfl (fun t ht hW => ⟨by rw [fM_mayBe, if_neg c5, if_pos c13] <;> rfl, ht⟩) (fun _ h => by cases h) dX1_mayBe_32
    · obtain ⟨i, hi, rfl⟩ := vp_in_of (mT_in hmt c5) (by omega)
      obtain ⟨u, hu, rfl⟩ := vp_in_of (mT_in hmt c13) (by omega)
      have hti := (hTM i hi).2
      have htu := (hTM u hu).2
      refine lv_aload_n hx hb dX1_mayBe_16 rfl (lv_at hl 0 rfl) ?_
      refine va_get (D := (dC, dI)) (ci := 1) (v := .ref gm) (C := RX1) (T := TX1) (N := 13) hx hb hts hin hown hK hP 0 rfl rfl 3 (by decide) (hts _ (List.mem_cons_of_mem _ tk_fl_16)) (fun _ h9 => h9) rfl dX1_mayBe_17 ?_
      refine lv_iload_n hx hb dX1_mayBe_20 rfl (lv_at hl 1 rfl) ?_
      refine va_iald hx hb hK hP 3 0 rfl rfl (vp_in_nI (by omega) (by decide)) dX1_mayBe_21 ?_
      refine kv_topi (y := nI (tM i)) (by rw [nI_clamp (by omega), (hTM i hi).1]) ?_
      refine lv_aload_n hx hb dX1_mayBe_22 rfl (lv_at hl 0 rfl) ?_
      refine va_get (D := (dC, dI)) (ci := 1) (v := .ref gm) (C := RX1) (T := TX1) (N := 13) hx hb hts hin hown hK hP 0 rfl rfl 3 (by decide) (hts _ (List.mem_cons_of_mem _ tk_fl_16)) (fun _ h9 => h9) rfl dX1_mayBe_23 ?_
      refine lv_iload_n hx hb dX1_mayBe_26 rfl (lv_at hl 2 rfl) ?_
      refine va_iald hx hb hK hP 3 0 rfl rfl (vp_in_nI (by omega) (by decide)) dX1_mayBe_27 ?_
      refine kv_topi (y := nI (tM u)) (by rw [nI_clamp (by omega), (hTM u hu).1]) ?_
      refine lv_icmp_eq (tgt := 33) hx hb dX1_mayBe_28 (by decide) (fun c28 => ?_) (fun c28 => ?_)
      · refine lv_iconst (v := 0) hx hb dX1_mayBe_33 (by decide) ?_
        refine lv_istore (lv' := [(4, .int 0), (0, .ref g0), (1, .int (nI i)), (2, .int (nI u)), (3, .int (bI x3))]) hx hb dX1_mayBe_34 hl (by decide) rfl (fun ls hl => ?_)
        have hiu : tM i = tM u := (nI_eq (by omega) (by omega)).mp c28
        have hfn : fM_mayBe tr tm tp mt bl (nI i) (nI u) x3 = (mall (fun k => fM_mayPass bl (tp (10 * u + k)) (tp (10 * i + k)) x3 false) (tM i) && fM_mayPass bl (tr i) (tr u) x3 true) := by rw [fM_mayBe, if_neg c5, if_neg c13, nI_clamp (by omega), nI_clamp (by omega), (hTM i hi).1, (hTM u hu).1, if_pos c28, nI_clamp (by omega)]
        suffices loop : ∀ (n k : Nat), k + n = tM i → mall (fun k => fM_mayPass bl (tp (10 * u + k)) (tp (10 * i + k)) x3 false) k = true → ∀ (ls : Array Slot), lv_has ls 5 [(4, .int (nI k)), (0, .ref g0), (1, .int (nI i)), (2, .int (nI u)), (3, .int (bI x3))] → W p l e (headSpec wsZ1_mayBe ({ frames := 3, cells := 0, slots := 0, locals := 67 })).room s m ([.ref g0, .int (nI i), .int (nI u), .int (bI x3)] : List Value).toArray below meth c s.heap [] 0 0 (MQ below (k2_QcV (.int (bI (fM_mayBe tr tm tp mt bl (nI i) (nI u) x3)))) ([.ref g0, .int (nI i), .int (nI u), .int (bI x3)] : List Value).toArray s 0 0 kNo) (F0 m 36 ls []) by
          exact loop (tM i) 0 (by omega) rfl ls (lv_sub hl [0, 1, 2, 3, 4] rfl)
        intro n
        induction n with
        | zero =>
          intro k hk he ls hl
          refine lv_iload hx hb dX1_mayBe_36 (lv_at hl 0 rfl) ?_
          refine lv_aload_n hx hb dX1_mayBe_38 rfl (lv_at hl 1 rfl) ?_
          refine va_get (D := (dC, dI)) (ci := 1) (v := .ref gm) (C := RX1) (T := TX1) (N := 13) hx hb hts hin hown hK hP 0 rfl rfl 3 (by decide) (hts _ (List.mem_cons_of_mem _ tk_fl_16)) (fun _ h9 => h9) rfl dX1_mayBe_39 ?_
          refine lv_iload_n hx hb dX1_mayBe_42 rfl (lv_at hl 2 rfl) ?_
          refine va_iald hx hb hK hP 3 0 rfl rfl (vp_in_nI (by omega) (by decide)) dX1_mayBe_43 ?_
          refine kv_topi (y := nI (tM i)) (by rw [nI_clamp (by omega), (hTM i hi).1]) ?_
          refine lv_icmp_ge (tgt := 88) hx hb dX1_mayBe_44 (by decide) (fun c44 => ?_) (fun c44 => ?_)
          · refine lv_aload_n hx hb dX1_mayBe_88 rfl (lv_at hl 1 rfl) ?_
            refine lv_aload_n hx hb dX1_mayBe_89 rfl (lv_at hl 1 rfl) ?_
            refine va_get (D := (dC, dI)) (ci := 1) (v := .ref gr) (C := RX1) (T := TX1) (N := 13) hx hb hts hin hown hK hP 0 rfl rfl 2 (by decide) (hts _ (List.mem_cons_of_mem _ tk_fl_13)) (fun _ h9 => h9) rfl dX1_mayBe_90 ?_
            refine lv_iload_n hx hb dX1_mayBe_93 rfl (lv_at hl 2 rfl) ?_
            refine va_iald hx hb hK hP 2 0 rfl rfl (vp_in_nI (by omega) (by decide)) dX1_mayBe_94 ?_
            refine kv_topi (y := tr i) (by rw [nI_clamp (by omega)]) ?_
            refine lv_aload_n hx hb dX1_mayBe_95 rfl (lv_at hl 1 rfl) ?_
            refine va_get (D := (dC, dI)) (ci := 1) (v := .ref gr) (C := RX1) (T := TX1) (N := 13) hx hb hts hin hown hK hP 0 rfl rfl 2 (by decide) (hts _ (List.mem_cons_of_mem _ tk_fl_13)) (fun _ h9 => h9) rfl dX1_mayBe_96 ?_
            refine lv_iload_n hx hb dX1_mayBe_99 rfl (lv_at hl 3 rfl) ?_
            refine va_iald hx hb hK hP 2 0 rfl rfl (vp_in_nI (by omega) (by decide)) dX1_mayBe_100 ?_
            refine kv_topi (y := tr u) (by rw [nI_clamp (by omega)]) ?_
            refine lv_iload_n hx hb dX1_mayBe_101 rfl (lv_at hl 4 rfl) ?_
            refine lv_iconst (v := 1) hx hb dX1_mayBe_102 (by decide) ?_
            refine kc_R [.int (tr i), .int (tr u), .int (bI x3), .int 1] [] ⟨hx, hb, hml, hown, hts⟩ (cM_mayPass l dC dI g0 gp gr gm gl gw gn cI pv nc tr tm tp mt wv nw re nm np kk kn bl pr (tr i) (tr u) x3 true hPV hBL hnc ((hTP u hu).1)) (cwV 4 hts gZ_mayBe_mayPass rfl rfl rfl (by decide +kernel) ⟨(Nat.le_of_ble_eq_true rfl), (Nat.le_of_ble_eq_true rfl)⟩) hP hK (ci := 1) (q0 := 0) rfl rfl rfl rfl hl.1 rfl (Nat.le_of_ble_eq_true rfl) dX1_mayBe_103 ⟨Nat.zero_le _, Nat.zero_le _⟩ ?_
            exact W.zret hx hb hr (bI_nar (fM_mayPass bl (tr i) (tr u) x3 true)) (fun t ht hW => ⟨by rw [hfn, show tM i = k by omega, he, Bool.true_and] <;> rfl, ht⟩) (fun _ h => by cases h) dX1_mayBe_106
          · exact absurd (nI_le (by omega) (by omega)) c44
        | succ n ih =>
          intro k hk he ls hl
          refine lv_iload hx hb dX1_mayBe_36 (lv_at hl 0 rfl) ?_
          refine lv_aload_n hx hb dX1_mayBe_38 rfl (lv_at hl 1 rfl) ?_
          refine va_get (D := (dC, dI)) (ci := 1) (v := .ref gm) (C := RX1) (T := TX1) (N := 13) hx hb hts hin hown hK hP 0 rfl rfl 3 (by decide) (hts _ (List.mem_cons_of_mem _ tk_fl_16)) (fun _ h9 => h9) rfl dX1_mayBe_39 ?_
          refine lv_iload_n hx hb dX1_mayBe_42 rfl (lv_at hl 2 rfl) ?_
          refine va_iald hx hb hK hP 3 0 rfl rfl (vp_in_nI (by omega) (by decide)) dX1_mayBe_43 ?_
          refine kv_topi (y := nI (tM i)) (by rw [nI_clamp (by omega), (hTM i hi).1]) ?_
          refine lv_icmp_ge (tgt := 88) hx hb dX1_mayBe_44 (by decide) (fun c44 => ?_) (fun c44 => ?_)
          · exact absurd ((nI_leI (by omega) (by omega)).mp c44) (by omega)
          · refine lv_aload_n hx hb dX1_mayBe_47 rfl (lv_at hl 1 rfl) ?_
            refine lv_aload_n hx hb dX1_mayBe_48 rfl (lv_at hl 1 rfl) ?_
            refine va_get (D := (dC, dI)) (ci := 1) (v := .ref gl) (C := RX1) (T := TX1) (N := 13) hx hb hts hin hown hK hP 0 rfl rfl 4 (by decide) (hts _ (List.mem_cons_of_mem _ tk_fl_19)) (fun _ h9 => h9) rfl dX1_mayBe_49 ?_
            refine lv_bipush (v := 10) hx hb dX1_mayBe_52 (by decide) ?_
            refine lv_iload_n hx hb dX1_mayBe_54 rfl (lv_at hl 3 rfl) ?_
            refine lv_imul hx hb dX1_mayBe_55 ?_
            refine lv_iload hx hb dX1_mayBe_56 (lv_at hl 0 rfl) ?_
            refine lv_iadd hx hb dX1_mayBe_58 ?_
            refine kv_topi (y := nI (10 * u + k)) ix10 ?_
            refine va_iald hx hb hK hP 4 0 rfl rfl (vp_in_nI (by omega) (by decide)) dX1_mayBe_59 ?_
            refine kv_topi (y := tp (10 * u + k)) (by rw [nI_clamp (by omega)]) ?_
            refine lv_aload_n hx hb dX1_mayBe_60 rfl (lv_at hl 1 rfl) ?_
            refine va_get (D := (dC, dI)) (ci := 1) (v := .ref gl) (C := RX1) (T := TX1) (N := 13) hx hb hts hin hown hK hP 0 rfl rfl 4 (by decide) (hts _ (List.mem_cons_of_mem _ tk_fl_19)) (fun _ h9 => h9) rfl dX1_mayBe_61 ?_
            refine lv_bipush (v := 10) hx hb dX1_mayBe_64 (by decide) ?_
            refine lv_iload_n hx hb dX1_mayBe_66 rfl (lv_at hl 2 rfl) ?_
            refine lv_imul hx hb dX1_mayBe_67 ?_
            refine lv_iload hx hb dX1_mayBe_68 (lv_at hl 0 rfl) ?_
            refine lv_iadd hx hb dX1_mayBe_70 ?_
            refine kv_topi (y := nI (10 * i + k)) ix10 ?_
            refine va_iald hx hb hK hP 4 0 rfl rfl (vp_in_nI (by omega) (by decide)) dX1_mayBe_71 ?_
            refine kv_topi (y := tp (10 * i + k)) (by rw [nI_clamp (by omega)]) ?_
            refine lv_iload_n hx hb dX1_mayBe_72 rfl (lv_at hl 4 rfl) ?_
            refine lv_iconst (v := 0) hx hb dX1_mayBe_73 (by decide) ?_
            refine kc_R [.int (tp (10 * u + k)), .int (tp (10 * i + k)), .int (bI x3), .int 0] [] ⟨hx, hb, hml, hown, hts⟩ (cM_mayPass l dC dI g0 gp gr gm gl gw gn cI pv nc tr tm tp mt wv nw re nm np kk kn bl pr (tp (10 * u + k)) (tp (10 * i + k)) x3 false hPV hBL hnc ((hTP i hi).2 k (by omega))) (cwV 4 hts gZ_mayBe_mayPass rfl rfl rfl (by decide +kernel) ⟨(Nat.le_of_ble_eq_true rfl), (Nat.le_of_ble_eq_true rfl)⟩) hP hK (ci := 1) (q0 := 0) rfl rfl rfl rfl hl.1 rfl (Nat.le_of_ble_eq_true rfl) dX1_mayBe_74 ⟨Nat.zero_le _, Nat.zero_le _⟩ ?_
            refine lv_if_ne (tgt := 82) hx hb dX1_mayBe_77 (by decide) (fun c77 => ?_) (fun c77 => ?_)
            · refine lv_iinc (v := nI (k + 1)) (lv' := [(4, .int (nI (k + 1))), (0, .ref g0), (1, .int (nI i)), (2, .int (nI u)), (3, .int (bI x3))]) hx hb dX1_mayBe_82 hl (k := 0) rfl (nI_1 k) (by decide) rfl (fun ls hl => ?_)
              refine lv_goto (tgt := 36) hx hb dX1_mayBe_85 (by decide) ?_
              exact ih (k + 1) (by omega) (by rw [mall, he, bI_n0 c77] <;> rfl) ls (lv_sub hl [0, 1, 2, 3, 4] rfl)
            · refine lv_iconst (v := 0) hx hb dX1_mayBe_80 (by decide) ?_
              exact W.zret hx hb hr rfl (fun t ht hW => ⟨by rw [hfn, mall_no (k := k) (by omega) (bI_e0 c77), Bool.false_and] <;> rfl, ht⟩) (fun _ h => by cases h) dX1_mayBe_81
      · refine lv_iconst (v := 0) hx hb dX1_mayBe_31 (by decide) ?_
        exact W.zret hx hb hr rfl (fun t ht hW => ⟨by rw [fM_mayBe, if_neg c5, if_neg c13, nI_clamp (by omega), nI_clamp (by omega), (hTM i hi).1, (hTM u hu).1, if_neg c28] <;> rfl, ht⟩) (fun _ h => by cases h) dX1_mayBe_32
set_option maxHeartbeats 4000000 in
set_option maxRecDepth 100000 in
theorem cM_add (l : Launch) (dC : Nat → ClassId) (dI : Nat → Nat → Nat) (g0 gp gr gm gl gw gn : Nat) (cI : ClassId) (pv : Nat → Int32) (nc : Nat) (tr : Nat → Int32) (tm : Nat → Int32) (tp : Nat → Int32) (mt : Nat) (wv : Nat → Int32) (nw : Nat) (re : Int32) (nm : Nat) (np : Nat → Int32) (kk : Int32) (kn : Int64) (x1 : Int32) (hnm : nm < 32) : Met l yX1_add wsZ1_add ({ frames := 0, cells := 0, slots := 0, locals := 0 }) (kPw (dC, dI) vwCl [(cI, .int)] (mW g0 gp gr gm gl gw gn cI pv nc tr tm tp mt wv nw re nm np kk kn) [.ref g0, .int x1]) (kQw (dC, dI) vwCl none (mW g0 gp gr gm gl gw gn cI pv nc tr tm tp mt wv nw re (nm + 1) (upd np nm x1) kk kn) [g0, gp, gr, gm, gl, gw, gn]) 0 0 (fun q => q ∈ [g0, gp, gr, gm, gl, gw, gn]) := by
  refine Met.ofW (cc := cX1_add) (maxL := 2) (ret := none) (by decide) rfl ?_
  intro p e s m args below meth c s₁ B hml hv
  obtain ⟨rfl, hP, hK, hD0⟩ := hv
  have hx := B.exec
  have hb := B.bytes
  have hr := B.returns
  have hts := atoms_spec (ws := wsZ1_add) B.pre
  have hown : s.vm.findClass RX1 = some m.cls := findClass_of_methodNamed B.named
  have hlocks := B.notSynchronized
  have hin : ∀ w ∈ u_ws RX1 TX1 13, w ∈ wsZ1_add := fun w h => List.mem_cons_of_mem _ (inZ1 w h)
  have hD : va_D (fun q => q ∈ [g0, gp, gr, gm, gl, gw, gn]) (mW g0 gp gr gm gl gw gn cI pv nc tr tm tp mt wv nw re nm np kk kn) := kD_self hD0 rfl
  have hS : va_S (fun q => q ∈ [g0, gp, gr, gm, gl, gw, gn]) s.heap s.heap [] := va_S.rf
  have hl := lv_entry ([.ref g0, .int x1]) (n := 2) (Nat.le_of_ble_eq_true rfl)
  rw [lg_entry_eq]
  generalize (lg_sl ([.ref g0, .int x1]) ++ List.replicate (2 - (lg_sl ([.ref g0, .int x1])).length) Slot.unset).toArray = ls at hl ⊢
  have hl : lv_has ls 2 [(0, .ref g0), (1, .int x1)] := hl
  refine lv_aload_n hx hb dX1_add_0 rfl (lv_at hl 0 rfl) ?_
  refine va_get (D := (dC, dI)) (ci := 1) (v := .ref gn) (C := RX1) (T := TX1) (N := 13) hx hb hts hin hown hK hP 0 rfl rfl 10 (by decide) (hts _ (List.mem_cons_of_mem _ tk_fl_25)) (fun _ h9 => h9) rfl dX1_add_1 ?_
  refine lv_aload_n hx hb dX1_add_4 rfl (lv_at hl 0 rfl) ?_
  refine va_get (D := (dC, dI)) (ci := 1) (v := .int (nI nm)) (C := RX1) (T := TX1) (N := 13) hx hb hts hin hown hK hP 0 rfl rfl 9 (by decide) (hts _ (List.mem_cons_of_mem _ tk_fl_54)) (fun _ h9 => h9) rfl dX1_add_5 ?_
  refine lv_iload_n hx hb dX1_add_8 rfl (lv_at hl 1 rfl) ?_
  refine va_iast hx hb hK hP hD hS 6 0 rfl rfl (vp_in_nI hnm (by decide)) dX1_add_9 (fun H locs hP hD hS => ?_)
  have e_as : upd np (nI nm).toNatClampNeg x1 = upd np nm x1 := by rw [nI_clamp (by omega)]
  have hP : va_P (dC, dI) vwCl (mW g0 gp gr gm gl gw gn cI pv nc tr tm tp mt wv nw re nm (upd np nm x1) kk kn) H := by rw [← e_as]; exact hP
  have hD : va_D (fun q => q ∈ [g0, gp, gr, gm, gl, gw, gn]) (mW g0 gp gr gm gl gw gn cI pv nc tr tm tp mt wv nw re nm (upd np nm x1) kk kn) := by rw [← e_as]; exact hD
  refine lv_aload_n hx hb dX1_add_10 rfl (lv_at hl 0 rfl) ?_
  refine lv_dup hx hb dX1_add_11 rfl ?_
  refine va_get (D := (dC, dI)) (ci := 1) (v := .int (nI nm)) (C := RX1) (T := TX1) (N := 13) hx hb hts hin hown hK hP 0 rfl rfl 9 (by decide) (hts _ (List.mem_cons_of_mem _ tk_fl_54)) (fun _ h9 => h9) rfl dX1_add_12 ?_
  refine lv_iconst (v := 1) hx hb dX1_add_15 (by decide) ?_
  refine lv_iadd hx hb dX1_add_16 ?_
  refine kv_topi (y := nI (nm + 1)) (nI_1 nm) ?_
  refine va_put (D := (dC, dI)) (ci := 1) (v := .int (nI (nm + 1))) (ty := .int) (C := RX1) (T := TX1) (N := 13) hx hb hts hin tyX1 tyX1_ok nmX1 hown hK hP hD hS 0 rfl rfl 9 (by decide) (hts _ (List.mem_cons_of_mem _ tk_fl_54)) (fun _ h9 => h9) rfl (by decide +kernel) rfl rfl (Nat.le_of_ble_eq_true rfl) dX1_add_17 (fun H locs hP hD hS => ?_)
  have hP : va_P (dC, dI) vwCl (mW g0 gp gr gm gl gw gn cI pv nc tr tm tp mt wv nw re (nm + 1) (upd np nm x1) kk kn) H := hP
  have hD : va_D _ (mW g0 gp gr gm gl gw gn cI pv nc tr tm tp mt wv nw re (nm + 1) (upd np nm x1) kk kn) := hD
  exact W.vret hx hb hr (fun t ht hW => ⟨rfl, by rw [ht]; exact hP, hS.F ht⟩) hS.2.2 dX1_add_20
