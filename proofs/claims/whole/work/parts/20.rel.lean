/-! ===== the relation between the class's state and the reference's ===== -/
def kTY (tR tM : Nat → Nat) (tP : Nat → Nat → Nat) (nk nt : Nat) (tv : Nat → Int64) (tr tm tp : Nat → Int32) : Prop :=
  ∀ i, i < nt → tR i < nk ∧ tM i ≤ 10 ∧ (∀ k, k < tM i → 1 ≤ tP i k ∧ tP i k < nk) ∧ tv i = lN (enc (tR i) (tP i) (tM i)) ∧ tr i = nI (tR i) ∧ tm i = nI (tM i) ∧ ∀ k, k < tM i → tp (10 * i + k) = nI (tP i k)
def kInv (bl : Nat → Nat → Bool) (pr tR tM : Nat → Nat) (tP : Nat → Nat → Nat) (av : Nat → Int32) (nc : Nat) (rv : Nat → Int32) (nr : Nat) (tv : Nat → Int64) (nt : Nat) (pv tr tm tp wv : Nat → Int32) : Prop :=
  nc ≤ 12 ∧ kAV bl av (20 + nc) ∧ kBL bl pr nc ∧ kPV pv pr nc ∧ nr ≤ 20 ∧ (∀ k, k < nr → rv k = wv k) ∧ nt ≤ 300 ∧ kTY tR tM tP (20 + nc) nt tv tr tm tp
def kRel (av : Nat → Int32) (nc : Nat) (rv : Nat → Int32) (nr : Nat) (tv : Nat → Int64) (nt : Nat) (pv tr tm tp wv : Nat → Int32) : Prop := ∃ (bl : Nat → Nat → Bool) (pr tR tM : Nat → Nat) (tP : Nat → Nat → Nat), kInv bl pr tR tM tP av nc rv nr tv nt pv tr tm tp wv
theorem kTY_TM {tR tM : Nat → Nat} {tP : Nat → Nat → Nat} {nk nt : Nat} {tv : Nat → Int64} {tr tm tp : Nat → Int32} (h : kTY tR tM tP nk nt tv tr tm tp) : kTM tm tM nt := fun i hi => ⟨(h i hi).2.2.2.2.2.1, (h i hi).2.1⟩
theorem kTY_TP {tR tM : Nat → Nat} {tP : Nat → Nat → Nat} {nc nt : Nat} {tv : Nat → Int64} {tr tm tp : Nat → Int32} (hnc : nc ≤ 12) (h : kTY tR tM tP (20 + nc) nt tv tr tm tp) : kTP tr tp tM nt := fun i hi => ⟨by
  rw [(h i hi).2.2.2.2.1]
  exact vp_in_nI (by have := (h i hi).1; omega) (by decide), fun k hk => by
  rw [(h i hi).2.2.2.2.2.2 k hk]
  exact vp_in_nI (by have := ((h i hi).2.2.1 k hk).2; omega) (by decide)⟩
theorem kRel_0 : kRel (iA 20) 0 (fun _ => 0) 0 (fun _ => 0) 0 (fun _ => 0) (fun _ => 0) (fun _ => 0) (fun _ => 0) (fun _ => 0) := by
  refine ⟨bl0, fun _ => 0, fun _ => 0, fun _ => 0, fun _ _ => 0, by omega, fun i hi j hj => ?_, ⟨fun i _ j _ => rfl, fun i hi => absurd hi (Nat.not_lt_zero i)⟩, fun i hi => absurd hi (Nat.not_lt_zero i), by omega, fun k hk => absurd hk (Nat.not_lt_zero k), by omega, fun i hi => absurd hi (Nat.not_lt_zero i)⟩
  unfold iA
  rw [if_pos hi]
  exact iA_bits i hi j hj

set_option maxHeartbeats 4000000 in
set_option maxRecDepth 20000 in
theorem eq_below {bl : Nat → Nat → Bool} {nc : Nat} (hnc : nc ≤ 12) (x1 x2 : Int32) : fX_below (20 + nc) bl x1 x2 = fM_below nc bl x1 x2 := by
  unfold fX_below fM_below
  rw [mK_eq, mK_eq]
set_option maxHeartbeats 4000000 in
set_option maxRecDepth 20000 in
theorem eq_meet {bl : Nat → Nat → Bool} {pr : Nat → Nat} {nc : Nat} (hBL : kBL bl pr nc) (hnc : nc ≤ 12) (x1 x2 : Int32) : fX_meet (20 + nc) bl x1 x2 = fM_meet nc bl x1 x2 := by
  unfold fX_meet fM_meet
  rw [mK_eq, mK_eq]
  by_cases c1 : bI (fX_isKind (20 + nc) x1) = 0
  · rw [if_pos c1, if_pos c1]
  · rw [if_neg c1, if_neg c1]
    by_cases c2 : bI (fX_isKind (20 + nc) x2) = 0
    · rw [if_pos c2, if_pos c2]
    · rw [if_neg c2, if_neg c2]
      obtain ⟨i, hi, rfl⟩ := vp_in_of (kK_in (by omega) c1) (by omega)
      obtain ⟨j, hj, rfl⟩ := vp_in_of (kK_in (by omega) c2) (by omega)
      rw [nI_clamp (by omega), nI_clamp (by omega)]
      exact meet_same hBL hnc hi hj
set_option maxRecDepth 100000 in
set_option maxHeartbeats 4000000 in
theorem may_fin : ∀ i, i < 32 → ∀ j, j < 32 → ∀ f e B : Bool, (if nI i = 0 then e else if nI j = 0 then e else fX_mayPass (fun _ _ => B) (nI i) (nI j) f) = (if bI e = 0 then if nI i = 0 then false else if nI j = 0 then false else fM_mayPass (fun _ _ => B) (nI i) (nI j) f e else fM_mayPass (fun _ _ => B) (nI i) (nI j) f e) := by decide +kernel
theorem mpX_B (bl : Nat → Nat → Bool) (x y : Int32) (f : Bool) : fX_mayPass bl x y f = fX_mayPass (fun _ _ => blI bl (x + 8) y) x y f := rfl
theorem mpM_B (bl : Nat → Nat → Bool) (x y : Int32) (f e : Bool) : fM_mayPass bl x y f e = fM_mayPass (fun _ _ => blI bl (x + 8) y) x y f e := rfl
set_option maxHeartbeats 4000000 in
set_option maxRecDepth 20000 in
theorem eq_may {bl : Nat → Nat → Bool} {nc : Nat} (hnc : nc ≤ 12) (x1 x2 : Int32) (x3 x4 : Bool) : fX_may (20 + nc) bl x1 x2 x3 x4 = fM_may nc bl x1 x2 x3 x4 := by
  unfold fX_may fM_may
  rw [mK_eq, mK_eq]
  by_cases c1 : bI (fX_isKind (20 + nc) x1) = 0
  · rw [if_pos c1, if_pos c1]
  · rw [if_neg c1, if_neg c1]
    by_cases c2 : bI (fX_isKind (20 + nc) x2) = 0
    · rw [if_pos c2, if_pos c2]
    · rw [if_neg c2, if_neg c2]
      obtain ⟨i, hi, rfl⟩ := vp_in_of (kK_in (by omega) c1) (by omega)
      obtain ⟨j, hj, rfl⟩ := vp_in_of (kK_in (by omega) c2) (by omega)
      rw [mpX_B, mpM_B]
      exact may_fin i (by omega) j (by omega) x3 x4 (blI bl (nI i + 8) (nI j))
theorem bt_1 : ∀ n, n < 32 → ∀ j, j < 32 → bt ((1 : Int32) <<< (nI n &&& 31)) j = decide (n = j) := by decide +kernel
theorem kTY_mono {tR tM : Nat → Nat} {tP : Nat → Nat → Nat} {nk nk' nt : Nat} {tv : Nat → Int64} {tr tm tp : Nat → Int32} (hk : nk ≤ nk') (h : kTY tR tM tP nk nt tv tr tm tp) : kTY tR tM tP nk' nt tv tr tm tp := fun i hi => by
  obtain ⟨a1, a2, a3, a4⟩ := h i hi
  exact ⟨by omega, a2, fun k hk => by have := a3 k hk; omega, a4⟩
theorem par_iff {nc : Nat} (hnc : nc ≤ 12) (x : Int32) : fX_mayBeParent (20 + nc) x = true ↔ ∃ p, x = nI p ∧ (p = 7 ∨ p = 19 ∨ (20 ≤ p ∧ p < 20 + nc)) := by
  unfold fX_mayBeParent
  by_cases c : bI (fX_isKind (20 + nc) x) = 0
  · rw [if_pos c]
    refine ⟨fun h => (by cases h), fun h => ?_⟩
    obtain ⟨p, rfl, hp⟩ := h
    have := (rng_iff (n := 20 + nc) (by omega) (nI p)).mpr (vp_in_nI (by omega) (by omega))
    have e : fX_isKind (20 + nc) (nI p) = true := this
    rw [e] at c
    cases c
  · rw [if_neg c]
    obtain ⟨p, hp, rfl⟩ := vp_in_of (kK_in (by omega) c) (by omega)
    by_cases c7 : nI p = 7
    · rw [if_pos c7]
      exact ⟨fun _ => ⟨p, rfl, Or.inl ((nI_eq (b := 7) (by omega) (by decide)).mp c7)⟩, fun _ => rfl⟩
    · rw [if_neg c7]
      by_cases c19 : nI p = 19
      · rw [if_pos c19]
        exact ⟨fun _ => ⟨p, rfl, Or.inr (Or.inl ((nI_eq (b := 19) (by omega) (by decide)).mp c19))⟩, fun _ => rfl⟩
      · rw [if_neg c19]
        by_cases c20 : nI p < 20
        · rw [if_pos c20]
          refine ⟨fun h => (by cases h), fun h => ?_⟩
          obtain ⟨q, hq, h⟩ := h
          have e : p = q := (nI_eq (by omega) (by omega)).mp hq
          have h20 : p < 20 := (nI_ltI (b := 20) (by omega) (by decide)).mp c20
          have h7 : p ≠ 7 := fun z => c7 (by rw [z]; rfl)
          have h19 : p ≠ 19 := fun z => c19 (by rw [z]; rfl)
          omega
        · rw [if_neg c20]
          have h20 : 20 ≤ p := Nat.not_lt.mp (fun q => c20 (nI_lt (b := 20) q (by decide)))
          exact ⟨fun _ => ⟨p, rfl, Or.inr (Or.inr ⟨h20, hp⟩)⟩, fun _ => rfl⟩
theorem newX_no {av : Nat → Int32} {nc : Nat} {x : Int32} (hnc : nc ≤ 12) (h : nc = 12 ∨ ¬ fX_mayBeParent (20 + nc) x = true) : fX_newClass av (20 + nc) x = (-1, av, 20 + nc) := by
  unfold fX_newClass
  by_cases c : (32 : Int32) ≤ nI (20 + nc)
  · rw [if_pos c]
  · rw [if_neg c]
    rcases h with h | h
    · exact absurd (nI_le (a := 32) (by omega) (by omega)) c
    · rw [if_pos (by rw [bI_0]; exact Bool.eq_false_iff.mpr h)]
theorem newX_yes {av : Nat → Int32} {nc p : Nat} (hnc : nc < 12) (hp : p < 20 + nc) (h : fX_mayBeParent (20 + nc) (nI p) = true) : fX_newClass av (20 + nc) (nI p) = (nI (20 + nc), upd av (20 + nc) (av p ||| ((1 : Int32) <<< (nI (20 + nc) &&& 31))), 20 + nc + 1) := by
  unfold fX_newClass
  rw [if_neg (fun q : (32 : Int32) ≤ nI (20 + nc) => by have := (nI_leI (a := 32) (by decide) (by omega)).mp q; omega), if_neg (by rw [h]; decide), nI_clamp (by omega), nI_clamp (by omega)]
theorem newM_no {pv : Nat → Int32} {nc : Nat} {x : Int32} (hnc : nc ≤ 12) (h : nc = 12 ∨ ¬ fX_mayBeParent (20 + nc) x = true) : fM_newClass pv nc x = (-1, pv, nc) := by
  unfold fM_newClass
  by_cases c : nI nc = 12
  · rw [if_pos c]
  · rw [if_neg c]
    rcases h with h | h
    · exact absurd (by rw [h]; rfl) c
    · rw [par_iff hnc] at h
      rw [if_neg (fun q => h ⟨7, by rw [q]; rfl, Or.inl rfl⟩), if_neg (fun q => h ⟨19, by rw [q]; rfl, Or.inr (Or.inl rfl)⟩)]
      by_cases c20 : x < 20
      · rw [if_pos c20]
      · rw [if_neg c20]
        by_cases ck : bI (fM_isKind nc x) = 0
        · rw [if_pos ck]
        · obtain ⟨p, hp, rfl⟩ := vp_in_of (mK_in hnc ck) (by omega)
          exact absurd ⟨p, rfl, Or.inr (Or.inr ⟨Nat.not_lt.mp (fun q => c20 (nI_lt (b := 20) q (by decide))), hp⟩)⟩ h
theorem newM_yes {pv : Nat → Int32} {nc p : Nat} (hnc : nc < 12) (hp : p = 7 ∨ p = 19 ∨ (20 ≤ p ∧ p < 20 + nc)) : fM_newClass pv nc (nI p) = (nI (20 + nc), upd pv nc (nI p), nc + 1) := by
  unfold fM_newClass
  rw [if_neg (fun q : nI nc = 12 => by have := (nI_eq (b := 12) (by omega) (by decide)).mp q; omega), nI_clamp (by omega)]
  by_cases c7 : nI p = 7
  · rw [if_pos c7]
  · rw [if_neg c7]
    by_cases c19 : nI p = 19
    · rw [if_pos c19]
    · have h7 : p ≠ 7 := fun z => c7 (by rw [z]; rfl)
      have h19 : p ≠ 19 := fun z => c19 (by rw [z]; rfl)
      rw [if_neg c19, if_neg (fun q : nI p < 20 => by have := (nI_ltI (b := 20) (by omega) (by decide)).mp q; omega)]
      have e : fX_isKind (20 + nc) (nI p) = true := (rng_iff (n := 20 + nc) (by omega) (nI p)).mpr (vp_in_nI (by omega) (by omega))
      rw [mK_eq, e, if_neg (by decide)]
set_option maxHeartbeats 4000000 in
set_option maxRecDepth 20000 in
theorem eq_newClass {bl : Nat → Nat → Bool} {pr tR tM : Nat → Nat} {tP : Nat → Nat → Nat} {av : Nat → Int32} {nc : Nat} {rv : Nat → Int32} {nr : Nat} {tv : Nat → Int64} {nt : Nat} {pv tr tm tp wv : Nat → Int32} (hI : kInv bl pr tR tM tP av nc rv nr tv nt pv tr tm tp wv) (x1 : Int32) : (fX_newClass av (20 + nc) x1).1 = (fM_newClass pv nc x1).1 ∧ (fX_newClass av (20 + nc) x1).2.2 = 20 + (fM_newClass pv nc x1).2.2 ∧ kRel (fX_newClass av (20 + nc) x1).2.1 (fM_newClass pv nc x1).2.2 rv nr tv nt (fM_newClass pv nc x1).2.1 tr tm tp wv := by
  obtain ⟨hnc, hAV, hBL, hPV, hnr, hrw, hnt, hTY⟩ := id hI
  by_cases hc : nc = 12 ∨ ¬ fX_mayBeParent (20 + nc) x1 = true
  · rw [newX_no hnc hc, newM_no hnc hc]
    exact ⟨rfl, rfl, bl, pr, tR, tM, tP, hI⟩
  · have h12 : nc < 12 := by
      rcases Nat.lt_or_ge nc 12 with q | q
      · exact q
      · exact absurd (Or.inl (by omega)) hc
    have hpar : fX_mayBeParent (20 + nc) x1 = true := by
      cases hq : fX_mayBeParent (20 + nc) x1
      · exact absurd (Or.inr (by rw [hq]; decide)) hc
      · rfl
    obtain ⟨p, rfl, hp⟩ := (par_iff hnc x1).mp hpar
    rw [newX_yes h12 (by omega) hpar, newM_yes h12 hp]
    dsimp only
    refine ⟨rfl, by show 20 + nc + 1 = 20 + (nc + 1); omega, fun i j => if i = 20 + nc then (decide (20 + nc = j) || bl p j) else bl i j, fun i => if i = nc then p else pr i, tR, tM, tP, h12, ?_, ⟨?_, ?_⟩, ?_, hnr, hrw, hnt, kTY_mono (by omega) hTY⟩
    · intro i hi j hj
      dsimp only
      by_cases e : i = 20 + nc
      · rw [if_pos e, e, pk_us, b_or, bt_1 (20 + nc) (by omega) j hj, hAV p (by omega) j hj, Bool.or_comm]
      · rw [if_neg e, pk_un e]
        exact hAV i (by omega) j hj
    · intro i hi j hj
      dsimp only
      rw [if_neg (by omega)]
      exact hBL.1 i hi j hj
    · intro i hi
      dsimp only
      by_cases e : i = nc
      · subst e
        rw [if_pos rfl]
        refine ⟨hp, fun j hj => ?_⟩
        rw [if_pos rfl, if_neg (by omega)]
      · obtain ⟨g1, g2⟩ := hBL.2 i (by omega)
        rw [if_neg e]
        refine ⟨g1, fun j hj => ?_⟩
        rw [if_neg (by omega), if_neg (by omega)]
        exact g2 j hj
    · intro i hi
      dsimp only
      by_cases e : i = nc
      · rw [if_pos e, e, pk_us]
      · rw [if_neg e, pk_un e]
        exact hPV i (by omega)
set_option maxHeartbeats 4000000 in
set_option maxRecDepth 20000 in
theorem eq_put {bl : Nat → Nat → Bool} {pr tR tM : Nat → Nat} {tP : Nat → Nat → Nat} {av : Nat → Int32} {nc : Nat} {rv : Nat → Int32} {nr : Nat} {tv : Nat → Int64} {nt : Nat} {pv tr tm tp wv : Nat → Int32} (hI : kInv bl pr tR tM tP av nc rv nr tv nt pv tr tm tp wv) (x1 : Int32) : (fX_put rv nr x1).1 = (fM_put wv nr x1).1 ∧ (fX_put rv nr x1).2.2 = (fM_put wv nr x1).2.2 ∧ kRel av nc (fX_put rv nr x1).2.1 (fM_put wv nr x1).2.2 tv nt pv tr tm tp (fM_put wv nr x1).2.1 := by
  obtain ⟨hnc, hAV, hBL, hPV, hnr, hrw, hnt, hTY⟩ := id hI
  by_cases hc : nr = 20
  · have e1 : fX_put rv nr x1 = (false, rv, nr) := by
      unfold fX_put
      rw [if_neg (fun q : nI nr < 20 => by have := (nI_ltI (b := 20) (by omega) (by decide)).mp q; omega)]
    have e2 : fM_put wv nr x1 = (false, wv, nr) := by
      unfold fM_put
      rw [if_pos (by rw [hc]; rfl)]
    rw [e1, e2]
    exact ⟨rfl, rfl, bl, pr, tR, tM, tP, hI⟩
  · have e1 : fX_put rv nr x1 = (true, upd rv nr x1, nr + 1) := by
      unfold fX_put
      rw [if_pos (show nI nr < 20 from nI_lt (b := 20) (by omega) (by decide)), nI_clamp (by omega)]
    have e2 : fM_put wv nr x1 = (true, upd wv nr x1, nr + 1) := by
      unfold fM_put
      rw [if_neg (fun q : nI nr = 20 => hc ((nI_eq (b := 20) (by omega) (by decide)).mp q)), nI_clamp (by omega)]
    rw [e1, e2]
    refine ⟨rfl, rfl, bl, pr, tR, tM, tP, hnc, hAV, hBL, hPV, by show nr + 1 ≤ 20; omega, fun k hk => ?_, hnt, hTY⟩
    have hk : k < nr + 1 := hk
    show upd rv nr x1 k = upd wv nr x1 k
    by_cases e : k = nr
    · rw [e, pk_us, pk_us]
    · rw [pk_un e, pk_un e]
      exact hrw k (by omega)
theorem bmod_id {x : Int} {m : Nat} (h1 : -(m : Int) ≤ 2 * x) (h2 : 2 * x < m) : x.bmod m = x := by
  rw [Int.bmod_def]
  rcases Int.lt_or_le x 0 with q | q
  · have e : x % (m : Int) = x + m := by
      rw [← Int.add_emod_right]
      exact Int.emod_eq_of_lt (by omega) (by omega)
    rw [e, if_neg (by omega)]
    omega
  · have e : x % (m : Int) = x := Int.emod_eq_of_lt q (by omega)
    rw [e, if_pos (by omega)]
theorem i_fix {n : Int64} (h1 : -2147483648 ≤ n.toInt) (h2 : n.toInt < 2147483648) : n.toInt32.toInt64 = n := by
  apply Int64.toInt_inj.mp
  rw [Int32.toInt_toInt64, Int64.toInt_toInt32]
  exact bmod_id (by omega) (by omega)
theorem s_fix {n : Int64} (h1 : -32768 ≤ n.toInt) (h2 : n.toInt < 32768) : n.toInt32.toInt16.toInt32.toInt64 = n := by
  apply Int64.toInt_inj.mp
  rw [Int32.toInt_toInt64, Int16.toInt_toInt32, Int32.toInt_toInt16, Int64.toInt_toInt32, bmod_id (m := 2 ^ 32) (by omega) (by omega)]
  exact bmod_id (by omega) (by omega)
theorem b_rng {n : Int64} (h : n.toInt32.toInt8.toInt32.toInt64 = n) : -128 ≤ n.toInt ∧ n.toInt < 128 := by
  have e := congrArg Int64.toInt h
  rw [Int32.toInt_toInt64, Int8.toInt_toInt32] at e
  have h1 := Int8.le_toInt n.toInt32.toInt8
  have h2 := Int8.toInt_lt n.toInt32.toInt8
  omega
theorem s_rng {n : Int64} (h : n.toInt32.toInt16.toInt32.toInt64 = n) : -32768 ≤ n.toInt ∧ n.toInt < 32768 := by
  have e := congrArg Int64.toInt h
  rw [Int32.toInt_toInt64, Int16.toInt_toInt32] at e
  have h1 := Int16.le_toInt n.toInt32.toInt16
  have h2 := Int16.toInt_lt n.toInt32.toInt16
  omega
theorem char_N (n : Int64) : ∃ k, k < 65536 ∧ ((n.toInt32.toUInt32 % 65536).toInt32).toInt64 = lN k ∧ n &&& 65535 = lN k := by
  obtain ⟨k, hk, rfl⟩ := wb_of n
  have e1 : (65535 : Int64) = lN (2 ^ 16 - 1) := by decide
  have e2 : (nI k).toBitVec.toNat = k % 4294967296 := by
    show (BitVec.ofNat 32 k).toNat = _
    rw [BitVec.toNat_ofNat]
  refine ⟨k % 65536, Nat.mod_lt _ (by decide), ?_, ?_⟩
  · rw [lN_i, pk_char, e2, nI_l (by omega)]
    congr 1
    omega
  · rw [e1, wb_mask hk (by decide)]
theorem low_eq (x0 : Int32) (n : Int64) : fX_lowest x0 n = fM_forcedTo x0 n := by
  obtain ⟨k, -, e1, e2⟩ := char_N n
  unfold fX_lowest fM_forcedTo
  rw [e1, e2]
theorem lN_inj64 {a b : Nat} (ha : a < 2 ^ 64) (hb : b < 2 ^ 64) (h : lN a = lN b) : a = b := by
  rw [← wb_tn ha, h, wb_tn hb]
theorem and1_iff (n : Int64) : n &&& 1 = n ↔ n = 0 ∨ n = 1 := by
  obtain ⟨k, hk, rfl⟩ := wb_of n
  rw [wb_a1 hk]
  constructor
  · intro h
    have e := lN_inj64 (by omega) hk h
    rcases (show k = 0 ∨ k = 1 by omega) with rfl | rfl
    · exact Or.inl rfl
    · exact Or.inr rfl
  · rintro (h | h)
    · have e := lN_inj64 (b := 0) hk (by decide) h
      subst e
      rfl
    · have e := lN_inj64 (b := 1) hk (by decide) h
      subst e
      rfl
theorem fits_eq (x0 : Int32) (n : Int64) : fX_fits x0 n = fM_isNumber x0 n := by
  unfold fX_fits fM_isNumber
  by_cases c : x0 = 1
  · rw [if_pos c]
    have e : fX_lowest x0 n = n &&& 1 := by
      unfold fX_lowest
      rw [if_pos c]
    rw [e]
    by_cases c0 : n = 0
    · rw [if_pos (lgc0.mpr ((and1_iff n).mpr (Or.inl c0))), if_pos (lgc0.mpr c0)]
    · rw [if_neg (fun q => c0 (lgc0.mp q) : ¬ lg_cmp n 0 = 0)]
      by_cases c1 : n = 1
      · rw [if_pos (lgc0.mpr ((and1_iff n).mpr (Or.inr c1))), if_pos (lgc0.mpr c1)]
      · rw [if_neg (fun q => (((and1_iff n).mp (lgc0.mp q)).elim c0 c1) : ¬ lg_cmp (n &&& 1) n = 0), if_neg (fun q => c1 (lgc0.mp q) : ¬ lg_cmp n 1 = 0)]
  · rw [if_neg c, low_eq]
theorem wid_tab : ∀ i, i < 7 → ∀ j, j < 7 → (!fX_mayWiden (nI i) (nI j) || decide (i = j) || decide (j = 6) || (decide (i = 2) && decide (j = 3)) || (decide (j = 5) && (decide (i = 2) || decide (i = 3) || decide (i = 4)))) = true := by decide +kernel
theorem keep_ok {i j : Nat} (hi : i < 7) (hj : j < 7) {n : Int64} (hf : fX_fits (nI i) n = true) (hw : fX_mayWiden (nI i) (nI j) = true) : fM_forcedTo (nI j) n = n := by
  have hl : fX_lowest (nI i) n = n := by
    unfold fX_fits at hf
    by_cases c : lg_cmp (fX_lowest (nI i) n) n = 0
    · exact lgc0.mp c
    · rw [if_neg c] at hf
      cases hf
  have t := wid_tab i hi j hj
  rw [hw] at t
  simp only [Bool.not_true, Bool.false_or, Bool.or_eq_true, Bool.and_eq_true, decide_eq_true_eq] at t
  rcases t with ((t | t) | ⟨rfl, rfl⟩) | ⟨rfl, (rfl | rfl) | rfl⟩
  · rw [← t, ← low_eq]; exact hl
  · rw [t]; rfl
  · obtain ⟨h1, h2⟩ := b_rng hl
    exact s_fix (by omega) (by omega)
  · obtain ⟨h1, h2⟩ := b_rng hl
    exact i_fix (by omega) (by omega)
  · obtain ⟨h1, h2⟩ := s_rng hl
    exact i_fix (by omega) (by omega)
  · obtain ⟨k, hk, e1, -⟩ := char_N n
    have e : n = lN k := by rw [← e1]; exact hl.symm
    have := pk_lT (n := k) (by omega)
    rw [← e] at this
    exact i_fix (by omega) (by omega)
theorem may_nV {nk : Nat} {bl : Nat → Nat → Bool} {x y : Int32} {f : Bool} (h : ¬ bI (fX_may nk bl x y f false) = 0) : ¬ x = 0 ∧ ¬ y = 0 := by
  refine ⟨fun q => h ?_, fun q => h ?_⟩
  · unfold fX_may
    by_cases c1 : bI (fX_isKind nk x) = 0
    · rw [if_pos c1]; rfl
    · rw [if_neg c1]
      by_cases c2 : bI (fX_isKind nk y) = 0
      · rw [if_pos c2]; rfl
      · rw [if_neg c2, if_pos q]; rfl
  · unfold fX_may
    by_cases c1 : bI (fX_isKind nk x) = 0
    · rw [if_pos c1]; rfl
    · rw [if_neg c1]
      by_cases c2 : bI (fX_isKind nk y) = 0
      · rw [if_pos c2]; rfl
      · rw [if_neg c2]
        by_cases c3 : x = 0
        · rw [if_pos c3]; rfl
        · rw [if_neg c3, if_pos q]; rfl
theorem may_wid {nk : Nat} {bl : Nat → Nat → Bool} {x y : Int32} (h : ¬ bI (fX_may nk bl x y false false) = 0) (hx : fX_isPlain x = true) (hy : fX_isPlain y = true) : fX_mayWiden x y = true := by
  have h2 := may_nV h
  cases hw : fX_mayWiden x y
  · refine absurd ?_ h
    unfold fX_may
    by_cases c1 : bI (fX_isKind nk x) = 0
    · rw [if_pos c1]; rfl
    · rw [if_neg c1]
      by_cases c2 : bI (fX_isKind nk y) = 0
      · rw [if_pos c2]; rfl
      · rw [if_neg c2, if_neg h2.1, if_neg h2.2]
        unfold fX_mayPass
        rw [hx, hy, hw]
        rfl
  · rfl
theorem ref_tab : ∀ j, j < 32 → 1 ≤ j → fM_isReference (nI j) = !fX_isPlain (nI j) := by decide +kernel
theorem box_tab : ∀ k, k < 32 → fM_isBox (nI k) = fX_isBox (nI k) := by decide +kernel
theorem box_of : ∀ k, k < 32 → (!fX_isBox (nI k) || (decide (9 ≤ k) && decide (k ≤ 14))) = true := by decide +kernel
set_option maxHeartbeats 4000000 in
set_option maxRecDepth 20000 in
theorem eq_pass {bl : Nat → Nat → Bool} {nc : Nat} (hnc : nc ≤ 12) (pk : Int32) (pn : Int64) (x1 x2 : Int32) (x3 : Bool) (x4 : Int32) (x5 : Int64) : fX_pass (20 + nc) pk pn bl x1 x2 x3 x4 x5 = fM_pass nc pk pn bl x1 x2 x3 x4 x5 := by
  unfold fX_pass fM_pass
  rw [← eq_may hnc]
  by_cases c : bI (fX_may (20 + nc) bl x1 x2 x3 false) = 0
  · rw [if_pos c, if_pos c]
  · rw [if_neg c, if_neg c]
    obtain ⟨hx1, hx2⟩ := kmay_in (by omega) c
    obtain ⟨hn1, hn2⟩ := may_nV c
    obtain ⟨i, hi, rfl⟩ := vp_in_of hx1 (by omega)
    obtain ⟨j, hj, rfl⟩ := vp_in_of hx2 (by omega)
    have hi1 : 1 ≤ i := Nat.pos_of_ne_zero (fun q => hn1 (by rw [q]; rfl))
    have hj1 : 1 ≤ j := Nat.pos_of_ne_zero (fun q => hn2 (by rw [q]; rfl))
    rw [ref_tab j (by omega) hj1]
    by_cases p1 : bI (fX_isPlain (nI i)) = 0
    · rw [if_pos p1, if_pos (show bI (fM_isPlain (nI i)) = 0 from p1)]
      by_cases z : x4 = 0
      · rw [if_pos z, if_pos z]
        unfold fX_passNull
        cases h2 : fX_isPlain (nI j)
        · simp [bI]
        · have hne : ¬ nI i = nI j := fun q => by
            rw [q, h2] at p1
            cases p1
          cases x3
          · simp [bI, hne]
          · simp [bI]
      · rw [if_neg z, if_neg z]
        by_cases k4 : bI (fX_isKind (20 + nc) x4) = 0
        · have o1 : fX_isObject (20 + nc) x4 x5 = false := by
            unfold fX_isObject
            rw [if_pos k4]
          have o2 : fM_isObject nc x4 = false := by
            unfold fM_isObject
            rw [mK_eq, if_pos k4]
          rw [o1, o2]
          simp [bI]
        · obtain ⟨k, hk, rfl⟩ := vp_in_of (kK_in (by omega) k4) (by omega)
          by_cases g8 : k ≤ 8
          · have o1 : fX_isObject (20 + nc) (nI k) x5 = false := by
              unfold fX_isObject
              rw [if_neg k4, if_neg (fun q : (8 : Int32) < nI k => by have := (nI_ltI (a := 8) (by decide) (by omega)).mp q; omega)]
            have o2 : fM_isObject nc (nI k) = false := by
              unfold fM_isObject
              rw [mK_eq, if_neg k4, if_pos (show nI k ≤ 8 from nI_le (b := 8) g8 (by decide))]
            rw [o1, o2]
            simp [bI]
          · have o1 : fX_isObject (20 + nc) (nI k) x5 = (!fX_isBox (nI k) || fX_fits (nI k - 8) x5) := by
              unfold fX_isObject
              rw [if_neg k4, if_pos (show (8 : Int32) < nI k from nI_lt (a := 8) (by omega) (by omega))]
              cases fX_isBox (nI k) <;> cases fX_fits (nI k - 8) x5 <;> simp [bI]
            have o2 : fM_isObject nc (nI k) = true := by
              unfold fM_isObject
              rw [mK_eq, if_neg k4, if_neg (fun q : nI k ≤ 8 => g8 ((nI_leI (b := 8) (by omega) (by decide)).mp q))]
            have hkeep : fX_isBox (nI k) = true → fX_fits (nI k - 8) x5 = true → fX_mayWiden (nI k - 8) (nI j) = true → fX_isPlain (nI j) = true → fM_forcedTo (nI j) x5 = x5 := by
              intro q1 q2 q3 q4
              have t := box_of k (by omega)
              rw [q1] at t
              simp only [Bool.not_true, Bool.false_or, Bool.and_eq_true, decide_eq_true_eq] at t
              have e8 : nI k - 8 = nI (k - 8) := pk_sub (b := 8) (by omega)
              obtain ⟨y, y1, y2, y3⟩ := plain_of q4
              have ey : j = y := (nI_eq (by omega) (by omega)).mp y3
              rw [e8] at q2 q3
              exact keep_ok (i := k - 8) (j := j) (by omega) (by omega) q2 q3
            unfold fX_passAsReference fX_passAsPlain
            rw [o1, o2, box_tab k (by omega), ← fits_eq, low_eq, show fM_widens (nI k - 8) (nI j) = fX_mayWiden (nI k - 8) (nI j) from rfl]
            cases hb4 : fX_isBox (nI k) <;> cases hf4 : fX_fits (nI k - 8) x5 <;> cases hb1 : blI bl (nI k) (nI i) <;> cases h2 : fX_isPlain (nI j) <;> cases hb2 : blI bl (nI k) (nI j) <;> cases hw4 : fX_mayWiden (nI k - 8) (nI j) <;> cases x3 <;> first | (simp [bI]; done) | (rw [hkeep hb4 hf4 hw4 h2]; simp [bI])
    · rw [if_neg p1, if_neg (show ¬ bI (fM_isPlain (nI i)) = 0 from p1), ← fits_eq]
      unfold fX_passPlain
      rw [low_eq, show fM_isPlain (nI j) = fX_isPlain (nI j) from rfl]
      cases hf : fX_fits (nI i) x5
      · simp [bI]
      · cases h2 : fX_isPlain (nI j)
        · simp [bI]
        · cases x3
          · obtain ⟨y, y1, y2, y3⟩ := plain_of h2
            obtain ⟨w, w1, w2, w3⟩ := plain_of (bI_n0 p1)
            have ey : j = y := (nI_eq (by omega) (by omega)).mp y3
            have ew : i = w := (nI_eq (by omega) (by omega)).mp w3
            rw [keep_ok (i := i) (j := j) (by omega) (by omega) hf (may_wid c (bI_n0 p1) h2)]
            simp [bI]
          · simp [bI]
theorem res_enc {r m : Nat} {p : Nat → Nat} (hr : r < 32) (hm : m ≤ 10) (hp : ∀ k, k < m → p k < 32) : fX_resultOf (lN (enc r p m)) = nI r := by
  have h := enc_lt59 hr hm hp
  have e1 : (31 : Int64) = lN (2 ^ 5 - 1) := by decide
  unfold fX_resultOf
  rw [e1, wb_mask (by omega) (by decide), lN_i, show (2 ^ 5 : Nat) = 32 from rfl, enc_r hr]
theorem pls_enc {r m : Nat} {p : Nat → Nat} (hr : r < 32) (hm : m ≤ 10) (hp : ∀ k, k < m → p k < 32) : fX_placesOf (lN (enc r p m)) = nI m := by
  have h := enc_lt59 hr hm hp
  have e1 : (15 : Int64) = lN (2 ^ 4 - 1) := by decide
  have e2 : (5 : Int32) = nI 5 := rfl
  unfold fX_placesOf
  rw [e2, wb_shr (by omega) (by decide), e1, wb_mask (Nat.lt_of_le_of_lt (Nat.div_le_self _ _) (by omega)) (by decide), lN_i, show (2 ^ 5 : Nat) = 32 from rfl, show (2 ^ 4 : Nat) = 16 from rfl, enc_m hr hm]
theorem plb (k : Nat) : fX_placeBit (nI k) = nI (9 + 5 * k) := by
  unfold fX_placeBit
  rw [show (9 : Int32) = nI 9 from rfl, show (5 : Int32) = nI 5 from rfl, pk_mul, nI_add, Nat.mul_comm]
theorem plc_enc {r m k : Nat} {p : Nat → Nat} (hr : r < 32) (hm : m ≤ 10) (hp : ∀ k, k < m → p k < 32) (hk : k < m) : fX_placeOf (lN (enc r p m)) (nI k) = nI (p k) := by
  have h := enc_lt59 hr hm hp
  have e1 : (31 : Int64) = lN (2 ^ 5 - 1) := by decide
  unfold fX_placeOf
  rw [plb, wb_shr (by omega) (by omega), e1, wb_mask (Nat.lt_of_le_of_lt (Nat.div_le_self _ _) (by omega)) (by decide), lN_i, show (2 ^ 5 : Nat) = 32 from rfl, enc_p hr hm hp hk]
/-- what both sides hold of TYPE i -/
theorem ty_at {tR tM : Nat → Nat} {tP : Nat → Nat → Nat} {nc nt : Nat} {tv : Nat → Int64} {tr tm tp : Nat → Int32} (hnc : nc ≤ 12) (h : kTY tR tM tP (20 + nc) nt tv tr tm tp) {i : Nat} (hi : i < nt) : tR i < 32 ∧ tM i ≤ 10 ∧ (∀ k, k < tM i → tP i k < 32) ∧ fX_resultOf (tv i) = nI (tR i) ∧ fX_placesOf (tv i) = nI (tM i) ∧ (∀ k, k < tM i → fX_placeOf (tv i) (nI k) = nI (tP i k)) ∧ tr i = nI (tR i) ∧ tm i = nI (tM i) ∧ ∀ k, k < tM i → tp (10 * i + k) = nI (tP i k) := by
  obtain ⟨a1, a2, a3, a4, a5, a6, a7⟩ := h i hi
  have h1 : tR i < 32 := by omega
  have h3 : ∀ k, k < tM i → tP i k < 32 := fun k hk => by have := (a3 k hk).2; omega
  rw [a4]
  exact ⟨h1, a2, h3, res_enc h1 a2 h3, pls_enc h1 a2 h3, fun k hk => plc_enc h1 a2 h3 hk, a5, a6, a7⟩
set_option maxHeartbeats 4000000 in
set_option maxRecDepth 20000 in
theorem eq_typeAbout {bl : Nat → Nat → Bool} {pr tR tM : Nat → Nat} {tP : Nat → Nat → Nat} {av : Nat → Int32} {nc : Nat} {rv : Nat → Int32} {nr : Nat} {tv : Nat → Int64} {nt : Nat} {pv tr tm tp wv : Nat → Int32} (hI : kInv bl pr tR tM tP av nc rv nr tv nt pv tr tm tp wv) (x1 x2 : Int32) : fX_typeAbout tv nt x1 x2 = fM_typeAbout tr tm tp nt x1 x2 := by
  obtain ⟨hnc, hAV, hBL, hPV, hnr, hrw, hnt, hTY⟩ := id hI
  unfold fX_typeAbout fM_typeAbout
  rw [mT_eq]
  by_cases c1 : bI (fX_isType nt x1) = 0
  · rw [if_pos c1, if_pos c1]
  · rw [if_neg c1, if_neg c1]
    obtain ⟨i, hi, rfl⟩ := vp_in_of (kT_in hnt c1) (by omega)
    obtain ⟨b1, b2, b3, b4, b5, b6, b7, b8, b9⟩ := ty_at hnc hTY hi
    rw [nI_clamp (by omega), b4, b5, b7, b8]
    by_cases c2 : x2 = -1
    · rw [if_pos c2, if_pos c2]
    · rw [if_neg c2, if_neg c2]
      by_cases c3 : x2 = -2
      · rw [if_pos c3, if_pos c3]
      · rw [if_neg c3, if_neg c3]
        by_cases c4 : x2 < 0
        · rw [if_pos c4, if_pos c4]
        · rw [if_neg c4, if_neg c4]
          by_cases c5 : nI (tM i) ≤ x2
          · rw [if_pos c5, if_pos c5]
          · rw [if_neg c5, if_neg c5]
            obtain ⟨k, hk, rfl⟩ := nI_of c4
            have hkm : k < tM i := Nat.not_le.mp (fun q => c5 (nI_le q hk))
            rw [b6 k hkm, ix10, nI_clamp (by omega), b9 k hkm]
theorem kK_yes {nc i : Nat} (hnc : nc ≤ 12) (hi : i < 20 + nc) : ¬ bI (fX_isKind (20 + nc) (nI i)) = 0 := by
  have e : fX_isKind (20 + nc) (nI i) = true := (rng_iff (n := 20 + nc) (by omega) (nI i)).mpr (vp_in_nI hi (by omega))
  rw [e]
  decide
theorem may_end {bl : Nat → Nat → Bool} {nc a b : Nat} (hnc : nc ≤ 12) (ha : a < 20 + nc) (hb : b < 20 + nc) (f : Bool) : fX_may (20 + nc) bl (nI a) (nI b) f true = fM_mayPass bl (nI a) (nI b) f true := by
  rw [eq_may hnc]
  unfold fM_may
  rw [mK_eq, mK_eq, if_neg (kK_yes hnc ha), if_neg (kK_yes hnc hb), if_neg (by decide)]
theorem may_in {bl : Nat → Nat → Bool} {nc a b : Nat} (hnc : nc ≤ 12) (ha : a < 20 + nc) (hb : b < 20 + nc) (ha1 : 1 ≤ a) (hb1 : 1 ≤ b) (f : Bool) : fX_may (20 + nc) bl (nI a) (nI b) f false = fM_mayPass bl (nI a) (nI b) f false := by
  rw [eq_may hnc]
  unfold fM_may
  rw [mK_eq, mK_eq, if_neg (kK_yes hnc ha), if_neg (kK_yes hnc hb), if_pos (by decide), if_neg (nI_ne0 (by omega) (by omega)), if_neg (nI_ne0 (by omega) (by omega))]
theorem mall_congr {P Q : Nat → Bool} : ∀ (n : Nat), (∀ k, k < n → P k = Q k) → mall P n = mall Q n
  | 0, _ => rfl
  | n + 1, h => by
    unfold mall
    rw [mall_congr n (fun k hk => h k (by omega)), h n (by omega)]
set_option maxHeartbeats 4000000 in
set_option maxRecDepth 20000 in
theorem eq_mayBe {bl : Nat → Nat → Bool} {pr tR tM : Nat → Nat} {tP : Nat → Nat → Nat} {av : Nat → Int32} {nc : Nat} {rv : Nat → Int32} {nr : Nat} {tv : Nat → Int64} {nt : Nat} {pv tr tm tp wv : Nat → Int32} (hI : kInv bl pr tR tM tP av nc rv nr tv nt pv tr tm tp wv) (x1 x2 : Int32) (x3 : Bool) : fX_mayBe (20 + nc) tv nt bl x1 x2 x3 = fM_mayBe tr tm tp nt bl x1 x2 x3 := by
  obtain ⟨hnc, hAV, hBL, hPV, hnr, hrw, hnt, hTY⟩ := id hI
  unfold fX_mayBe fM_mayBe
  rw [mT_eq, mT_eq]
  by_cases c1 : bI (fX_isType nt x1) = 0
  · rw [if_pos c1, if_pos c1]
  · rw [if_neg c1, if_neg c1]
    by_cases c2 : bI (fX_isType nt x2) = 0
    · rw [if_pos c2, if_pos c2]
    · rw [if_neg c2, if_neg c2]
      obtain ⟨i, hi, rfl⟩ := vp_in_of (kT_in hnt c1) (by omega)
      obtain ⟨u, hu, rfl⟩ := vp_in_of (kT_in hnt c2) (by omega)
      obtain ⟨b1, b2, b3, b4, b5, b6, b7, b8, b9⟩ := ty_at hnc hTY hi
      obtain ⟨d1, d2, d3, d4, d5, d6, d7, d8, d9⟩ := ty_at hnc hTY hu
      obtain ⟨a1, a2, a3, -⟩ := hTY i hi
      obtain ⟨g1, g2, g3, -⟩ := hTY u hu
      rw [nI_clamp (by omega), nI_clamp (by omega), b4, b5, b7, b8, d4, d5, d7, d8]
      by_cases c3 : nI (tM i) = nI (tM u)
      · rw [if_pos c3, if_pos c3]
        have e : tM i = tM u := (nI_eq (by omega) (by omega)).mp c3
        rw [may_end hnc a1 g1, nI_clamp (by omega)]
        have hm : mall (fun k => fX_may (20 + nc) bl (fX_placeOf (tv u) (nI k)) (fX_placeOf (tv i) (nI k)) x3 false) (tM i) = mall (fun k => fM_mayPass bl (tp (10 * u + k)) (tp (10 * i + k)) x3 false) (tM i) := by
          refine mall_congr _ (fun k hk => ?_)
          try dsimp only
          rw [d6 k (by omega), b6 k hk, d9 k (by omega), b9 k hk]
          exact may_in hnc (g3 k (by omega)).2 (a3 k hk).2 (g3 k (by omega)).1 (a3 k hk).1 x3
        rw [hm]
        by_cases c4 : bI (fM_mayPass bl (nI (tR i)) (nI (tR u)) x3 true) = 0
        · rw [if_pos c4, bI_e0 c4, Bool.and_false]
        · rw [if_neg c4, bI_n0 c4, Bool.and_true]
      · rw [if_neg c3, if_neg c3]
theorem wp_enc {r m kd : Nat} {p : Nat → Nat} (hr : r < 32) (hm : m < 10) (hp : ∀ k, k < m → p k < 32) (hk : kd < 32) : fX_withPlace (lN (enc r p m)) (nI kd) = lN (enc r p m + 32 + kd * 2 ^ (9 + 5 * m)) := by
  have h1 := enc_lt hr (by omega) hp
  have h2 : 2 ^ (9 + 5 * m) ≤ 2 ^ 54 := Nat.pow_le_pow_right (by decide) (by omega)
  have h3 : kd * 2 ^ (9 + 5 * m) ≤ 31 * 2 ^ (9 + 5 * m) := Nat.mul_le_mul_right _ (by omega)
  unfold fX_withPlace
  rw [pls_enc hr (by omega) hp, plb, nI_l (by omega), wb_shl kd (by omega), show (32 : Int64) = lN 32 from rfl, lN_add]
  exact g_or' rfl h1 (by omega)
theorem enc_step {r m : Nat} {p : Nat → Nat} : enc r p m + 32 + p m * 2 ^ (9 + 5 * m) = enc r p (m + 1) := by
  unfold enc
  rw [show hiP p (m + 1) = hiP p m + p m * 2 ^ (9 + 5 * m) from rfl]
  omega
theorem tyb_enc {r : Nat} {rv : Nat → Int32} {q : Nat → Nat} (hr : r < 32) : ∀ (n : Nat), n ≤ 10 → (∀ k, k < n → q k < 32 ∧ rv k = nI (q k)) → tyb rv (nI r).toInt64 n = lN (enc r q n)
  | 0, _, _ => by
    show (nI r).toInt64 = lN (r + 32 * 0 + 0)
    rw [nI_l (by omega)]
    rfl
  | n + 1, hn, h => by
    unfold tyb
    rw [tyb_enc hr n (by omega) (fun k hk => h k (by omega)), (h n (by omega)).2, wp_enc hr (by omega) (fun k hk => (h k (by omega)).1) (h n (by omega)).1, enc_step]
/-- a TYPE made: found or new, on both sides alike -/
theorem made_rel {bl : Nat → Nat → Bool} {pr tR tM : Nat → Nat} {tP : Nat → Nat → Nat} {av : Nat → Int32} {nc : Nat} {rv : Nat → Int32} {nr : Nat} {tv : Nat → Int64} {nt : Nat} {pv tr tm tp wv : Nat → Int32} (hI : kInv bl pr tR tM tP av nc rv nr tv nt pv tr tm tp wv) {r0 m0 : Nat} {q : Nat → Nat} {np : Nat → Int32} {made : Int64} (hr : r0 < 20 + nc) (hm : m0 ≤ 10) (hq : ∀ k, k < m0 → 1 ≤ q k ∧ q k < 20 + nc) (hmade : made = lN (enc r0 q m0)) (hnp : ∀ k, k < m0 → np k = nI (q k)) :
    fnd (fun zz => decide (tv zz = made)) nt 0 = fnd (fQ tr tm tp np (nI r0) m0) nt 0 ∧ ∀ (nr' : Nat), nr' ≤ nr → kRel av nc rv nr' (nbV (fnd (fQ tr tm tp np (nI r0) m0) nt 0) nt tv (vp_updL tv nt made)) (nbN (fnd (fQ tr tm tp np (nI r0) m0) nt 0) nt) pv (nbV (fnd (fQ tr tm tp np (nI r0) m0) nt 0) nt tr (upd tr nt (nI r0))) (nbV (fnd (fQ tr tm tp np (nI r0) m0) nt 0) nt tm (upd tm nt (nI m0))) (nbV (fnd (fQ tr tm tp np (nI r0) m0) nt 0) nt tp (tpC tp np nt m0)) wv := by
  obtain ⟨hnc, hAV, hBL, hPV, hnr, hrw, hnt, hTY⟩ := id hI
  have hq32 : ∀ k, k < m0 → q k < 32 := fun k hk => by have := (hq k hk).2; omega
  refine ⟨fnd_congr nt 0 (fun i _ hi => ?_), fun nr' hnr' => ?_⟩
  · have hi : i < nt := by omega
    obtain ⟨a1, a2, a3, a4, a5, a6, a7⟩ := hTY i hi
    have h3 : ∀ k, k < tM i → tP i k < 32 := fun k hk => by have := (a3 k hk).2; omega
    have g1 := enc_lt59 (r := tR i) (m := tM i) (p := tP i) (by omega) a2 h3
    have g2 := enc_lt59 (r := r0) (m := m0) (p := q) (by omega) hm hq32
    rw [Bool.eq_iff_iff]
    unfold fQ
    simp only [Bool.and_eq_true, decide_eq_true_eq, mall_iff]
    rw [a4, hmade, a5, a6, pk_lEQ (by omega) (by omega), enc_inj (by omega) a2 h3 (by omega) hm hq32, nI_eq (by omega) (by omega), nI_eq (by omega) (by omega)]
    constructor
    · rintro ⟨e1, e2, e3⟩
      exact ⟨⟨e1, e2⟩, fun k hk => by rw [a7 k (by omega), hnp k hk, e3 k (by omega)]⟩
    · rintro ⟨⟨e1, e2⟩, e3⟩
      refine ⟨e1, e2, fun k hk => ?_⟩
      have := e3 k (by omega)
      rw [a7 k hk, hnp k (by omega)] at this
      exact (nI_eq (by have := h3 k hk; omega) (by have := hq32 k (by omega); omega)).mp this
  · have old : kRel av nc rv nr' tv nt pv tr tm tp wv := ⟨bl, pr, tR, tM, tP, hnc, hAV, hBL, hPV, by omega, fun k hk => hrw k (by omega), hnt, hTY⟩
    cases fnd (fQ tr tm tp np (nI r0) m0) nt 0 with
    | some z => exact old
    | none =>
      by_cases h300 : nt = 300
      · rw [nbV_f h300, nbV_f h300, nbV_f h300, nbV_f h300, nbN_f h300]
        exact old
      · rw [nbV_n h300, nbV_n h300, nbV_n h300, nbV_n h300, nbN_n h300]
        refine ⟨bl, pr, fun i => if i = nt then r0 else tR i, fun i => if i = nt then m0 else tM i, fun i => if i = nt then q else tP i, hnc, hAV, hBL, hPV, by omega, fun k hk => hrw k (by omega), by omega, fun i hi => ?_⟩
        try dsimp only
        by_cases e : i = nt
        · subst e
          rw [if_pos rfl, if_pos rfl, if_pos rfl, pk_uLs, pk_us, pk_us]
          refine ⟨hr, hm, hq, hmade, rfl, rfl, fun k hk => ?_⟩
          unfold tpC
          rw [if_pos (by omega), Nat.add_sub_cancel_left]
          exact hnp k hk
        · rw [if_neg e, if_neg e, if_neg e, pk_uLn e, pk_un e, pk_un e]
          obtain ⟨a1, a2, a3, a4, a5, a6, a7⟩ := hTY i (by omega)
          refine ⟨a1, a2, a3, a4, a5, a6, fun k hk => ?_⟩
          unfold tpC
          rw [if_neg (by omega)]
          exact a7 k hk
set_option maxHeartbeats 4000000 in
set_option maxRecDepth 20000 in
theorem eq_type {bl : Nat → Nat → Bool} {pr tR tM : Nat → Nat} {tP : Nat → Nat → Nat} {av : Nat → Int32} {nc : Nat} {rv : Nat → Int32} {nr : Nat} {tv : Nat → Int64} {nt : Nat} {pv tr tm tp wv : Nat → Int32} (hI : kInv bl pr tR tM tP av nc rv nr tv nt pv tr tm tp wv) (re : Int32) (nm : Nat) (np : Nat → Int32) (x1 : Int32) : (if fX_typeOK (20 + nc) rv nr x1 = true then nbR (fnd (fun zz => decide (tv zz = tyb rv x1.toInt64 nr)) nt 0) nt else (-1 : Int32)) = (if fM_typeOK nc wv nr x1 = true then (if nr ≤ 10 then nbR (fnd (fQ tr tm tp (npC np wv nr) x1 nr) nt 0) nt else (-1 : Int32)) else (-1 : Int32)) ∧ (if fX_typeOK (20 + nc) rv nr x1 = true then (nbN (fnd (fun zz => decide (tv zz = (tyb rv x1.toInt64 nr))) nt 0) nt) else nt) = (if fM_typeOK nc wv nr x1 = true then (if nr ≤ 10 then nbN (fnd (fQ tr tm tp (npC np wv nr) x1 nr) nt 0) nt else nt) else nt) ∧ kRel av nc rv 0 (if fX_typeOK (20 + nc) rv nr x1 = true then (nbV (fnd (fun zz => decide (tv zz = (tyb rv x1.toInt64 nr))) nt 0) nt tv (vp_updL tv nt (tyb rv x1.toInt64 nr))) else tv) (if fM_typeOK nc wv nr x1 = true then (if nr ≤ 10 then nbN (fnd (fQ tr tm tp (npC np wv nr) x1 nr) nt 0) nt else nt) else nt) pv (if fM_typeOK nc wv nr x1 = true then (if nr ≤ 10 then nbV (fnd (fQ tr tm tp (npC np wv nr) x1 nr) nt 0) nt tr (upd tr nt x1) else tr) else tr) (if fM_typeOK nc wv nr x1 = true then (if nr ≤ 10 then nbV (fnd (fQ tr tm tp (npC np wv nr) x1 nr) nt 0) nt tm (upd tm nt (nI nr)) else tm) else tm) (if fM_typeOK nc wv nr x1 = true then (if nr ≤ 10 then nbV (fnd (fQ tr tm tp (npC np wv nr) x1 nr) nt 0) nt tp (tpC tp (npC np wv nr) nt nr) else tp) else tp) wv := by
  obtain ⟨hnc, hAV, hBL, hPV, hnr, hrw, hnt, hTY⟩ := id hI
  have hOK : fM_typeOK nc wv nr x1 = fX_typeOK (20 + nc) rv nr x1 := by
    unfold fM_typeOK fX_typeOK
    rw [mK_eq, mall_congr (Q := fun k => fX_isKind (20 + nc) (rv k) && !decide (rv k = 0)) nr (fun k hk => by rw [hrw k hk, mK_eq])]
  rw [hOK]
  by_cases hok : fX_typeOK (20 + nc) rv nr x1 = true
  · simp only [if_pos hok]
    have h1 := hok
    unfold fX_typeOK at h1
    simp only [Bool.and_eq_true, decide_eq_true_eq, mall_iff] at h1
    obtain ⟨⟨k1, h10⟩, k2⟩ := h1
    simp only [if_pos h10]
    obtain ⟨r0, hr0, rfl⟩ := vp_in_of ((rng_iff (n := 20 + nc) (by omega) x1).mp k1) (by omega)
    have hq : ∀ k, k < nr → 1 ≤ (rv k).toNatClampNeg ∧ (rv k).toNatClampNeg < 20 + nc ∧ rv k = nI (rv k).toNatClampNeg := by
      intro k hk
      obtain ⟨z1, z2⟩ := k2 k hk
      obtain ⟨w, hw, ew⟩ := vp_in_of ((rng_iff (n := 20 + nc) (by omega) (rv k)).mp z1) (by omega)
      rw [ew, nI_clamp (by omega)]
      refine ⟨Nat.pos_of_ne_zero (fun q => ?_), hw, rfl⟩
      rw [ew, q] at z2
      exact absurd z2 (by decide)
    obtain ⟨e, hk⟩ := made_rel hI (r0 := r0) (m0 := nr) (q := fun k => (rv k).toNatClampNeg) (np := npC np wv nr) (made := tyb rv (nI r0).toInt64 nr) hr0 h10 (fun k hk => ⟨(hq k hk).1, (hq k hk).2.1⟩) (tyb_enc (by omega) nr h10 (fun k hk => ⟨by have := (hq k hk).2.1; omega, (hq k hk).2.2⟩)) (fun k hk => by
      unfold npC
      rw [if_pos hk, ← hrw k hk]
      exact (hq k hk).2.2)
    rw [e]
    exact ⟨rfl, rfl, hk 0 (by omega)⟩
  · simp only [if_neg hok]
    exact ⟨trivial, trivial, bl, pr, tR, tM, tP, hnc, hAV, hBL, hPV, by omega, fun k hk => absurd hk (Nat.not_lt_zero k), hnt, hTY⟩
theorem wpo_enc {r r' m' : Nat} {p' : Nat → Nat} (hr : r < 32) (hr' : r' < 32) (hm' : m' ≤ 10) (hp' : ∀ k, k < m' → p' k < 32) : ∀ (n k m : Nat) (p : Nat → Nat), k + n ≤ m' → m + n ≤ 10 → (∀ j, j < m → p j < 32) → wpo (lN (enc r' p' m')) n k (lN (enc r p m)) = lN (enc r (fun j => if j < m then p j else p' (k + (j - m))) (m + n))
  | 0, k, m, p, _, _, _ => by
    show lN (enc r p m) = _
    congr 1
    exact enc_congr (fun j hj => by rw [if_pos hj])
  | n + 1, k, m, p, h1, h2, hp => by
    have hb : ∀ j, j < m + 1 → (if j < m then p j else p' (k + (j - m))) < 32 := by
      intro j hj
      by_cases c : j < m
      · rw [if_pos c]; exact hp j c
      · rw [if_neg c]; exact hp' _ (by omega)
    have e1 : fX_withPlace (lN (enc r p m)) (nI (p' k)) = lN (enc r (fun j => if j < m then p j else p' (k + (j - m))) (m + 1)) := by
      rw [wp_enc hr (by omega) hp (hp' k (by omega)), ← enc_step]
      have e2 : enc r p m = enc r (fun j => if j < m then p j else p' (k + (j - m))) m := enc_congr (fun j hj => by rw [if_pos hj])
      rw [← e2, if_neg (Nat.lt_irrefl m), Nat.sub_self]
      rfl
    unfold wpo
    rw [plc_enc hr' hm' hp' (by omega), e1, wpo_enc hr hr' hm' hp' n (k + 1) (m + 1) _ (by omega) (by omega) hb, show m + 1 + n = m + (n + 1) by omega]
    congr 1
    refine enc_congr (fun j hj => ?_)
    by_cases c : j < m + 1
    · rw [if_pos c]
    · rw [if_neg c, if_neg (by omega), show k + 1 + (j - (m + 1)) = k + (j - m) by omega]
theorem wpI_n (z o : Int64) {f t : Nat} (hf : f < 2 ^ 31) (ht : t < 2 ^ 31) : wpI z o (nI f) (nI t) = wpo o (t - f) f z := by
  unfold wpI
  rw [nI_clamp hf, nI_clamp ht]
theorem add0_at (np f : Nat → Int32) (j : Nat) : ∀ (n : Nat), add0 np f n j = if j < n then f j else np j
  | 0 => by
    unfold add0
    rw [if_neg (by omega)]
  | n + 1 => by
    unfold add0
    by_cases c : j = n
    · rw [c, pk_us, if_pos (by omega)]
    · rw [pk_un c, add0_at np f j n]
      by_cases d : j < n
      · rw [if_pos d, if_pos (by omega)]
      · rw [if_neg d, if_neg (by omega)]
theorem addL_at (np : Nat → Int32) (nm : Nat) (f : Nat → Int32) (j : Nat) : ∀ (n : Nat), addL np nm f n j = if nm ≤ j ∧ j < nm + n then f (j - nm) else np j
  | 0 => by
    unfold addL
    rw [if_neg (by omega)]
  | n + 1 => by
    unfold addL
    by_cases c : j = nm + n
    · rw [c, pk_us, if_pos (by omega), Nat.add_sub_cancel_left]
    · rw [pk_un c, addL_at np nm f j n]
      by_cases d : nm ≤ j ∧ j < nm + n
      · rw [if_pos d, if_pos (by omega)]
      · rw [if_neg d, if_neg (by omega)]
theorem chN3_at (tp np : Nat → Int32) (i a b u mu n j : Nat) (hj : j < a + mu + n) : chN3 tp np i a b u mu n j = if j < a then tp (10 * i + j) else if j < a + mu then tp (10 * u + (j - a)) else tp (10 * i + (a + b + (j - (a + mu)))) := by
  unfold chN3 chN2 chN1
  rw [addL_at, addL_at, add0_at]
  by_cases c1 : j < a
  · rw [if_neg (by omega), if_neg (by omega), if_pos c1, if_pos c1]
  · by_cases c2 : j < a + mu
    · rw [if_neg (by omega), if_pos (by omega), if_neg c1, if_pos c2]
    · rw [if_pos (by omega), if_neg c1, if_neg c2]
set_option maxHeartbeats 4000000 in
set_option maxRecDepth 20000 in
theorem eq_changed {bl : Nat → Nat → Bool} {pr tR tM : Nat → Nat} {tP : Nat → Nat → Nat} {av : Nat → Int32} {nc : Nat} {rv : Nat → Int32} {nr : Nat} {tv : Nat → Int64} {nt : Nat} {pv tr tm tp wv : Nat → Int32} (hI : kInv bl pr tR tM tP av nc rv nr tv nt pv tr tm tp wv) (re : Int32) (nm : Nat) (np : Nat → Int32) (x1 x2 x3 x4 : Int32) : (fX_changed tv nt x1 x2 x3 x4).1 = (if fM_chOK tm nt x1 x2 x3 x4 = true then (if (x2.toNatClampNeg + (tm x4.toNatClampNeg).toNatClampNeg + ((tm x1.toNatClampNeg).toNatClampNeg - (x2.toNatClampNeg + x3.toNatClampNeg))) ≤ 10 then nbR (fnd (fQ tr tm tp (chN3 tp np (x1.toNatClampNeg) (x2.toNatClampNeg) (x3.toNatClampNeg) (x4.toNatClampNeg) (tm x4.toNatClampNeg).toNatClampNeg ((tm x1.toNatClampNeg).toNatClampNeg - (x2.toNatClampNeg + x3.toNatClampNeg))) (tr x1.toNatClampNeg) (x2.toNatClampNeg + (tm x4.toNatClampNeg).toNatClampNeg + ((tm x1.toNatClampNeg).toNatClampNeg - (x2.toNatClampNeg + x3.toNatClampNeg)))) nt 0) nt else (-1 : Int32)) else (-1 : Int32)) ∧ (fX_changed tv nt x1 x2 x3 x4).2.2 = (if fM_chOK tm nt x1 x2 x3 x4 = true then (if (x2.toNatClampNeg + (tm x4.toNatClampNeg).toNatClampNeg + ((tm x1.toNatClampNeg).toNatClampNeg - (x2.toNatClampNeg + x3.toNatClampNeg))) ≤ 10 then nbN (fnd (fQ tr tm tp (chN3 tp np (x1.toNatClampNeg) (x2.toNatClampNeg) (x3.toNatClampNeg) (x4.toNatClampNeg) (tm x4.toNatClampNeg).toNatClampNeg ((tm x1.toNatClampNeg).toNatClampNeg - (x2.toNatClampNeg + x3.toNatClampNeg))) (tr x1.toNatClampNeg) (x2.toNatClampNeg + (tm x4.toNatClampNeg).toNatClampNeg + ((tm x1.toNatClampNeg).toNatClampNeg - (x2.toNatClampNeg + x3.toNatClampNeg)))) nt 0) nt else nt) else nt) ∧ kRel av nc rv nr (fX_changed tv nt x1 x2 x3 x4).2.1 (if fM_chOK tm nt x1 x2 x3 x4 = true then (if (x2.toNatClampNeg + (tm x4.toNatClampNeg).toNatClampNeg + ((tm x1.toNatClampNeg).toNatClampNeg - (x2.toNatClampNeg + x3.toNatClampNeg))) ≤ 10 then nbN (fnd (fQ tr tm tp (chN3 tp np (x1.toNatClampNeg) (x2.toNatClampNeg) (x3.toNatClampNeg) (x4.toNatClampNeg) (tm x4.toNatClampNeg).toNatClampNeg ((tm x1.toNatClampNeg).toNatClampNeg - (x2.toNatClampNeg + x3.toNatClampNeg))) (tr x1.toNatClampNeg) (x2.toNatClampNeg + (tm x4.toNatClampNeg).toNatClampNeg + ((tm x1.toNatClampNeg).toNatClampNeg - (x2.toNatClampNeg + x3.toNatClampNeg)))) nt 0) nt else nt) else nt) pv (if fM_chOK tm nt x1 x2 x3 x4 = true then (if (x2.toNatClampNeg + (tm x4.toNatClampNeg).toNatClampNeg + ((tm x1.toNatClampNeg).toNatClampNeg - (x2.toNatClampNeg + x3.toNatClampNeg))) ≤ 10 then nbV (fnd (fQ tr tm tp (chN3 tp np (x1.toNatClampNeg) (x2.toNatClampNeg) (x3.toNatClampNeg) (x4.toNatClampNeg) (tm x4.toNatClampNeg).toNatClampNeg ((tm x1.toNatClampNeg).toNatClampNeg - (x2.toNatClampNeg + x3.toNatClampNeg))) (tr x1.toNatClampNeg) (x2.toNatClampNeg + (tm x4.toNatClampNeg).toNatClampNeg + ((tm x1.toNatClampNeg).toNatClampNeg - (x2.toNatClampNeg + x3.toNatClampNeg)))) nt 0) nt tr (upd tr nt (tr x1.toNatClampNeg)) else tr) else tr) (if fM_chOK tm nt x1 x2 x3 x4 = true then (if (x2.toNatClampNeg + (tm x4.toNatClampNeg).toNatClampNeg + ((tm x1.toNatClampNeg).toNatClampNeg - (x2.toNatClampNeg + x3.toNatClampNeg))) ≤ 10 then nbV (fnd (fQ tr tm tp (chN3 tp np (x1.toNatClampNeg) (x2.toNatClampNeg) (x3.toNatClampNeg) (x4.toNatClampNeg) (tm x4.toNatClampNeg).toNatClampNeg ((tm x1.toNatClampNeg).toNatClampNeg - (x2.toNatClampNeg + x3.toNatClampNeg))) (tr x1.toNatClampNeg) (x2.toNatClampNeg + (tm x4.toNatClampNeg).toNatClampNeg + ((tm x1.toNatClampNeg).toNatClampNeg - (x2.toNatClampNeg + x3.toNatClampNeg)))) nt 0) nt tm (upd tm nt (nI (x2.toNatClampNeg + (tm x4.toNatClampNeg).toNatClampNeg + ((tm x1.toNatClampNeg).toNatClampNeg - (x2.toNatClampNeg + x3.toNatClampNeg))))) else tm) else tm) (if fM_chOK tm nt x1 x2 x3 x4 = true then (if (x2.toNatClampNeg + (tm x4.toNatClampNeg).toNatClampNeg + ((tm x1.toNatClampNeg).toNatClampNeg - (x2.toNatClampNeg + x3.toNatClampNeg))) ≤ 10 then nbV (fnd (fQ tr tm tp (chN3 tp np (x1.toNatClampNeg) (x2.toNatClampNeg) (x3.toNatClampNeg) (x4.toNatClampNeg) (tm x4.toNatClampNeg).toNatClampNeg ((tm x1.toNatClampNeg).toNatClampNeg - (x2.toNatClampNeg + x3.toNatClampNeg))) (tr x1.toNatClampNeg) (x2.toNatClampNeg + (tm x4.toNatClampNeg).toNatClampNeg + ((tm x1.toNatClampNeg).toNatClampNeg - (x2.toNatClampNeg + x3.toNatClampNeg)))) nt 0) nt tp (tpC tp (chN3 tp np (x1.toNatClampNeg) (x2.toNatClampNeg) (x3.toNatClampNeg) (x4.toNatClampNeg) (tm x4.toNatClampNeg).toNatClampNeg ((tm x1.toNatClampNeg).toNatClampNeg - (x2.toNatClampNeg + x3.toNatClampNeg))) nt (x2.toNatClampNeg + (tm x4.toNatClampNeg).toNatClampNeg + ((tm x1.toNatClampNeg).toNatClampNeg - (x2.toNatClampNeg + x3.toNatClampNeg)))) else tp) else tp) wv := by
  obtain ⟨hnc, hAV, hBL, hPV, hnr, hrw, hnt, hTY⟩ := id hI
  have old : kRel av nc rv nr tv nt pv tr tm tp wv := ⟨bl, pr, tR, tM, tP, hI⟩
  by_cases c1 : bI (fX_isType nt x1) = 0
  · have e1 : fX_changed tv nt x1 x2 x3 x4 = (-1, tv, nt) := by
      unfold fX_changed
      rw [if_pos c1]
    have e2 : fM_chOK tm nt x1 x2 x3 x4 = false := by
      unfold fM_chOK
      rw [mT_eq, if_pos c1]
    rw [e1, e2]
    simp only [Bool.false_eq_true, ↓reduceIte]
    exact ⟨trivial, trivial, old⟩
  by_cases c4 : bI (fX_isType nt x4) = 0
  · have e1 : fX_changed tv nt x1 x2 x3 x4 = (-1, tv, nt) := by
      unfold fX_changed
      rw [if_neg c1, if_pos c4]
    have e2 : fM_chOK tm nt x1 x2 x3 x4 = false := by
      unfold fM_chOK
      rw [mT_eq, mT_eq, if_neg c1, if_pos c4]
    rw [e1, e2]
    simp only [Bool.false_eq_true, ↓reduceIte]
    exact ⟨trivial, trivial, old⟩
  obtain ⟨i, hi, rfl⟩ := vp_in_of (kT_in hnt c1) (by omega)
  obtain ⟨u, hu, rfl⟩ := vp_in_of (kT_in hnt c4) (by omega)
  obtain ⟨b1, b2, b3, b4, b5, b6, b7, b8, b9⟩ := ty_at hnc hTY hi
  obtain ⟨d1, d2, d3, d4, d5, d6, d7, d8, d9⟩ := ty_at hnc hTY hu
  obtain ⟨a1, a2, a3, a4, -⟩ := hTY i hi
  obtain ⟨g1, g2, g3, g4, -⟩ := hTY u hu
  have ci : (nI i).toNatClampNeg = i := nI_clamp (by omega)
  have cu : (nI u).toNatClampNeg = u := nI_clamp (by omega)
  by_cases c3 : x3 < 0
  · have e1 : fX_changed tv nt (nI i) x2 x3 (nI u) = (-1, tv, nt) := by
      unfold fX_changed
      rw [if_neg c1, if_neg c4, if_pos c3]
    have e2 : fM_chOK tm nt (nI i) x2 x3 (nI u) = false := by
      unfold fM_chOK
      rw [mT_eq, mT_eq, if_neg c1, if_neg c4]
      by_cases c2 : x2 < 0
      · rw [if_pos c2]
      · rw [if_neg c2, if_pos c3]
    rw [e1, e2]
    simp only [Bool.false_eq_true, ↓reduceIte]
    exact ⟨trivial, trivial, old⟩
  obtain ⟨b, hb, rfl⟩ := nI_of c3
  by_cases c5 : nI (tM i) < nI b
  · have hbM : tM i < b := (nI_ltI (by omega) hb).mp c5
    have e1 : fX_changed tv nt (nI i) x2 (nI b) (nI u) = (-1, tv, nt) := by
      unfold fX_changed
      rw [if_neg c1, if_neg c4, if_neg c3, ci, b5, if_pos c5]
    have e2 : fM_chOK tm nt (nI i) x2 (nI b) (nI u) = false := by
      unfold fM_chOK
      rw [mT_eq, mT_eq, if_neg c1, if_neg c4]
      by_cases c2 : x2 < 0
      · rw [if_pos c2]
      · obtain ⟨a, ha, rfl⟩ := nI_of c2
        rw [if_neg c2, if_neg c3, ci, b8, if_neg (fun q => by have := (ch_le ha hb b2).mp q; omega)]
    rw [e1, e2]
    simp only [Bool.false_eq_true, ↓reduceIte]
    exact ⟨trivial, trivial, old⟩
  have hbM : b ≤ tM i := Nat.not_lt.mp (fun q => c5 (nI_lt q hb))
  by_cases c2 : x2 < 0
  · have e1 : fX_changed tv nt (nI i) x2 (nI b) (nI u) = (-1, tv, nt) := by
      unfold fX_changed
      rw [if_neg c1, if_neg c4, if_neg c3, ci, b5, if_neg c5, if_pos c2]
    have e2 : fM_chOK tm nt (nI i) x2 (nI b) (nI u) = false := by
      unfold fM_chOK
      rw [mT_eq, mT_eq, if_neg c1, if_neg c4, if_pos c2]
    rw [e1, e2]
    simp only [Bool.false_eq_true, ↓reduceIte]
    exact ⟨trivial, trivial, old⟩
  obtain ⟨a, ha, rfl⟩ := nI_of c2
  have es : nI (tM i) - nI b = nI (tM i - b) := pk_sub hbM
  by_cases hab : a + b ≤ tM i
  · have hok : fM_chOK tm nt (nI i) (nI a) (nI b) (nI u) = true := by
      unfold fM_chOK
      rw [mT_eq, mT_eq, if_neg c1, if_neg c4, if_neg c2, if_neg c3, ci, b8, if_pos ((ch_le ha hb b2).mpr hab)]
    have hle : nI a ≤ nI (tM i - b) := nI_le (by omega) (by omega)
    have ca : (nI a).toNatClampNeg = a := nI_clamp ha
    have cb : (nI b).toNatClampNeg = b := nI_clamp hb
    have cmi : (nI (tM i)).toNatClampNeg = tM i := nI_clamp (by omega)
    have cmu : (nI (tM u)).toNatClampNeg = tM u := nI_clamp (by omega)
    simp only [if_pos hok, ci, ca, cb, cu, b7, b8, d8, cmi, cmu]
    by_cases h10 : a + tM u + (tM i - (a + b)) ≤ 10
    · simp only [if_pos h10]
      have hmade : wpI (wpI (wpI ((nI (tR i)).toInt64) (tv i) (0 : Int32) (nI a)) (tv u) (0 : Int32) (nI (tM u))) (tv i) (nI a + nI b) (nI (tM i)) = lN (enc (tR i) (fun j => if j < a then tP i j else if j < a + tM u then tP u (j - a) else tP i (a + b + (j - (a + tM u)))) (a + tM u + (tM i - (a + b)))) := by
        show wpI (wpI (wpI ((nI (tR i)).toInt64) (tv i) (nI 0) (nI a)) (tv u) (nI 0) (nI (tM u))) (tv i) (nI a + nI b) (nI (tM i)) = _
        rw [nI_add a b, wpI_n (f := a + b) (t := tM i) _ _ (by omega) (by omega), wpI_n (f := 0) (t := tM u) _ _ (by omega) (by omega), wpI_n (f := 0) (t := a) _ _ (by omega) ha, Nat.sub_zero, Nat.sub_zero, nI_l (by omega), a4, g4, show lN (tR i) = lN (enc (tR i) (tP i) 0) from rfl]
        rw [wpo_enc (r := tR i) (r' := tR i) (m' := tM i) (p' := tP i) b1 b1 b2 b3 a 0 0 (tP i) (by omega) (by omega) (fun j hj => by omega)]
        rw [wpo_enc (r := tR i) (r' := tR u) (m' := tM u) (p' := tP u) b1 d1 d2 d3 (tM u) 0 (0 + a) _ (by omega) (by omega) (fun j hj => by rw [if_neg (by omega)]; exact b3 _ (by omega))]
        rw [wpo_enc (r := tR i) (r' := tR i) (m' := tM i) (p' := tP i) b1 b1 b2 b3 (tM i - (a + b)) (a + b) (0 + a + tM u) _ (by omega) (by omega) (fun j hj => by
          by_cases c : j < 0 + a
          · rw [if_pos c, if_neg (by omega)]; exact b3 _ (by omega)
          · rw [if_neg c]; exact d3 _ (by omega))]
        rw [Nat.zero_add a]
        congr 1
        refine enc_congr (fun j hj => ?_)
        by_cases k1 : j < a
        · rw [if_pos (by omega), if_pos k1, if_neg (by omega), if_pos k1, Nat.zero_add, Nat.sub_zero]
        · by_cases k2 : j < a + tM u
          · rw [if_pos k2, if_neg k1, if_neg k1, if_pos k2, Nat.zero_add]
          · rw [if_neg k2, if_neg k1, if_neg k2]
      have e1 : fX_changed tv nt (nI i) (nI a) (nI b) (nI u) = (nbR (fnd (fun zz => decide (tv zz = lN (enc (tR i) (fun j => if j < a then tP i j else if j < a + tM u then tP u (j - a) else tP i (a + b + (j - (a + tM u)))) (a + tM u + (tM i - (a + b)))))) nt 0) nt, nbV (fnd (fun zz => decide (tv zz = lN (enc (tR i) (fun j => if j < a then tP i j else if j < a + tM u then tP u (j - a) else tP i (a + b + (j - (a + tM u)))) (a + tM u + (tM i - (a + b)))))) nt 0) nt tv (vp_updL tv nt (lN (enc (tR i) (fun j => if j < a then tP i j else if j < a + tM u then tP u (j - a) else tP i (a + b + (j - (a + tM u)))) (a + tM u + (tM i - (a + b)))))), nbN (fnd (fun zz => decide (tv zz = lN (enc (tR i) (fun j => if j < a then tP i j else if j < a + tM u then tP u (j - a) else tP i (a + b + (j - (a + tM u)))) (a + tM u + (tM i - (a + b)))))) nt 0) nt) := by
        unfold fX_changed
        rw [if_neg c1, if_neg c4, if_neg c3, ci, cu, b5, if_neg c5, if_neg c2, es, if_pos hle, d5, nI_add (tM i - b) (tM u), if_pos (show nI (tM i - b + tM u) ≤ 10 from nI_le (b := 10) (by omega) (by decide)), b4, hmade]
      obtain ⟨e, hk⟩ := made_rel hI (r0 := tR i) (m0 := a + tM u + (tM i - (a + b))) (q := fun j => if j < a then tP i j else if j < a + tM u then tP u (j - a) else tP i (a + b + (j - (a + tM u)))) (np := chN3 tp np i a b u (tM u) (tM i - (a + b))) a1 h10 (fun k hk => by
        try dsimp only
        by_cases k1 : k < a
        · rw [if_pos k1]; exact a3 k (by omega)
        · rw [if_neg k1]
          by_cases k2 : k < a + tM u
          · rw [if_pos k2]; exact g3 _ (by omega)
          · rw [if_neg k2]; exact a3 _ (by omega)) rfl (fun k hk => by
        rw [chN3_at _ _ _ _ _ _ _ _ _ hk]
        try dsimp only
        by_cases k1 : k < a
        · rw [if_pos k1, if_pos k1]; exact b9 k (by omega)
        · rw [if_neg k1, if_neg k1]
          by_cases k2 : k < a + tM u
          · rw [if_pos k2, if_pos k2]; exact d9 _ (by omega)
          · rw [if_neg k2, if_neg k2]; exact b9 _ (by omega))
      rw [e1]
      try dsimp only
      rw [e]
      exact ⟨rfl, rfl, hk nr (Nat.le_refl nr)⟩
    · have e1 : fX_changed tv nt (nI i) (nI a) (nI b) (nI u) = (-1, tv, nt) := by
        unfold fX_changed
        rw [if_neg c1, if_neg c4, if_neg c3, ci, cu, b5, if_neg c5, if_neg c2, es, if_pos hle, d5, nI_add (tM i - b) (tM u), if_neg (fun q : nI (tM i - b + tM u) ≤ 10 => by have := (nI_leI (b := 10) (by omega) (by decide)).mp q; omega)]
      rw [e1]
      simp only [if_neg h10]
      exact ⟨trivial, trivial, old⟩
  · have e1 : fX_changed tv nt (nI i) (nI a) (nI b) (nI u) = (-1, tv, nt) := by
      unfold fX_changed
      rw [if_neg c1, if_neg c4, if_neg c3, ci, b5, if_neg c5, if_neg c2, es, if_neg (fun q : nI a ≤ nI (tM i - b) => by have := (nI_leI ha (by omega)).mp q; omega)]
    have e2 : fM_chOK tm nt (nI i) (nI a) (nI b) (nI u) = false := by
      unfold fM_chOK
      rw [mT_eq, mT_eq, if_neg c1, if_neg c4, if_neg c2, if_neg c3, ci, b8, if_neg (fun q => hab ((ch_le ha hb b2).mp q))]
    rw [e1, e2]
    simp only [Bool.false_eq_true, ↓reduceIte]
    exact ⟨trivial, trivial, old⟩
