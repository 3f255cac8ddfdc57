/-! the reference: tallies, looks, notes, images, kinds -/
theorem s7_xor {x y : Int32} (hx : s7 x) (hy : s7 y) : s7 (x ^^^ y) := by
  obtain ⟨a, ha, rfl⟩ := hx
  obtain ⟨b, hb, rfl⟩ := hy
  exact ⟨a ^^^ b, Nat.xor_lt_two_pow (n := 7) ha hb, xorI a b⟩
theorem s7_nI {k : Nat} (h : k < 128) : s7 (nI k) := ⟨k, h, rfl⟩
theorem bc_ge : ∀ s, s < 128 → (-1) ≤ bc (nI s) := by decide +kernel
theorem s7_bc {x : Int32} (h : s7 x) : (-1) ≤ bc x := by obtain ⟨s, hs, rfl⟩ := h; exact bc_ge s hs
theorem slOn_lt (f : Nat → Int32) (q : Nat) : ∀ k, ∃ s, s < 2 ^ k ∧ slOn f q k = nI s
  | 0 => ⟨0, by decide, rfl⟩
  | k + 1 => by
    obtain ⟨s, h, e⟩ := slOn_lt f q k
    rw [slOn]
    split
    · exact ⟨s ||| 2 ^ k, Nat.or_lt_two_pow (Nat.lt_trans h (Nat.pow_lt_pow_right (by decide) (by omega))) (Nat.pow_lt_pow_right (by decide) (by omega)), by rw [e, orI]⟩
    · exact ⟨s, Nat.lt_trans h (Nat.pow_lt_pow_right (by decide) (by omega)), e⟩
theorem slOn_s7 (f : Nat → Int32) (q : Nat) : s7 (slOn f q 6) := by obtain ⟨s, h, e⟩ := slOn_lt f q 6; exact ⟨s, Nat.lt_trans h (by decide), e⟩
theorem b_thSet (f : Nat → Int32) (x : Int32) (i : Nat) : ∀ k, k ≤ 31 → (bt (thSet f x k) i = true ↔ ∃ j, j < k ∧ bt x j = true ∧ bt (thOn f j 7) i = true)
  | 0, _ => by
    constructor
    · intro h
      rw [thSet, show nI 0 = (0 : Int32) from rfl, b_0] at h
      cases h
    · rintro ⟨j, hj, -⟩
      exact absurd hj (Nat.not_lt_zero j)
  | k + 1, hk => by
    have ih := b_thSet f x i k (by omega)
    rw [thSet]
    by_cases h : tb x k = 0
    · rw [if_pos h, ih]
      constructor
      · rintro ⟨j, hj, h2⟩; exact ⟨j, by omega, h2⟩
      · rintro ⟨j, hj, h2, h3⟩
        rcases Nat.lt_or_ge j k with h4 | h4
        · exact ⟨j, h4, h2, h3⟩
        · rw [tb_bt (by omega)] at h
          rw [show j = k by omega, h] at h2
          cases h2
    · rw [if_neg h, b_or, Bool.or_eq_true, ih]
      constructor
      · rintro (⟨j, hj, h2⟩ | h2)
        · exact ⟨j, by omega, h2⟩
        · exact ⟨k, by omega, (tb_ne (by omega)).mp h, h2⟩
      · rintro ⟨j, hj, h2, h3⟩
        rcases Nat.lt_or_ge j k with h4 | h4
        · exact Or.inl ⟨j, h4, h2, h3⟩
        · exact Or.inr (by rw [← show j = k by omega]; exact h3)
theorem thSet_or (f : Nat → Int32) (x y : Int32) {k : Nat} (hk : k ≤ 31) : thSet f (x ||| y) k = thSet f x k ||| thSet f y k := by
  refine b_ext (fun i hi => ?_)
  rw [Bool.eq_iff_iff, b_or, Bool.or_eq_true, b_thSet f _ i k hk, b_thSet f _ i k hk, b_thSet f _ i k hk]
  constructor
  · rintro ⟨j, hj, h1, h2⟩
    rw [b_or, Bool.or_eq_true] at h1
    rcases h1 with h1 | h1
    · exact Or.inl ⟨j, hj, h1, h2⟩
    · exact Or.inr ⟨j, hj, h1, h2⟩
  · rintro (⟨j, hj, h1, h2⟩ | ⟨j, hj, h1, h2⟩)
    · exact ⟨j, hj, by rw [b_or, h1, Bool.true_or], h2⟩
    · exact ⟨j, hj, by rw [b_or, h1, Bool.or_true], h2⟩
theorem thSet_1 (f : Nat → Int32) {q k : Nat} (hq : q < k) (hk : k ≤ 31) : thSet f (nI (2 ^ q)) k = thOn f q 7 := by
  refine b_ext (fun i hi => ?_)
  rw [Bool.eq_iff_iff, b_thSet f _ i k hk]
  constructor
  · rintro ⟨j, hj, h1, h2⟩
    rw [b_p2 (by omega), decide_eq_true_eq] at h1
    rw [← h1]; exact h2
  · intro h
    exact ⟨q, hq, by rw [b_p2 (by omega)]; simp, h⟩
theorem thOn_cg {f g : Nat → Int32} {q : Nat} (h : ∀ t, t < 7 → f (q * 7 + t) = g (q * 7 + t)) : ∀ k, k ≤ 7 → thOn f q k = thOn g q k
  | 0, _ => rfl
  | k + 1, hk => by rw [thOn, thOn, h k (by omega), thOn_cg h k (by omega)]
theorem thSet_cg {f g : Nat → Int32} (h : ∀ q t, q < 6 → t < 7 → f (q * 7 + t) = g (q * 7 + t)) (x : Int32) : ∀ k, k ≤ 6 → thSet f x k = thSet g x k
  | 0, _ => rfl
  | k + 1, hk => by rw [thSet, thSet, thOn_cg (h k · (by omega)) 7 (by decide), thSet_cg h x k (by omega)]
theorem or_diff (x y : Int32) : (x ||| y) &&& (x ^^^ (-1)) = y &&& (x ^^^ (-1)) := b_ext (fun i hi => by rw [b_and, b_and, b_or, b_not hi]; cases bt x i <;> cases bt y i <;> rfl)
theorem exaF_th (f : Nat → Int32) {q : Nat} (hq : q < 6) : thSet (exaF f q) (exaF f q 48) 6 &&& (thSet f (f 48) 6 ^^^ (-1)) = thOn f q 7 &&& (thSet f (f 48) 6 ^^^ (-1)) := by
  have e1 : ∀ x, thSet (exaF f q) x 6 = thSet f x 6 := fun x => thSet_cg (fun q2 t hq2 ht => by unfold exaF; rw [pk_un (by omega)]) x 6 (by decide)
  have e2 : exaF f q 48 = f 48 ||| nI (2 ^ q) := pk_us
  rw [e1, e2, thSet_or f _ _ (by decide), thSet_1 f hq (by decide), or_diff]
theorem lk_iff (f : Nat → Int32) (x : Int32) : thSet f (nI 63) 6 &&& (thSet f (x ||| f 48) 6 ^^^ (-1)) = 0 ↔ lkM f &&& (thSet f x 6 ^^^ (-1)) = 0 := by
  have e : thSet f (nI 63) 6 &&& (thSet f (x ||| f 48) 6 ^^^ (-1)) = lkM f &&& (thSet f x 6 ^^^ (-1)) := by
    unfold lkM
    rw [thSet_or f _ _ (by decide)]
    exact b_ext (fun i hi => by rw [b_and, b_and, b_and, b_not hi, b_not hi, b_not hi, b_or]; cases bt (thSet f (nI 63) 6) i <;> cases bt (thSet f x 6) i <;> cases bt (thSet f (f 48) 6) i <;> rfl)
  rw [e]
theorem fewS_7 {x : Int32} (hx : x = (-9) ∨ s7 x) {y : Int32} (hy : s7 y) : fewS x y = (-9) ∨ s7 (fewS x y) := by
  unfold fewS
  split
  · exact Or.inr hy
  · split
    · exact hx
    · exact Or.inr hy

set_option maxHeartbeats 4000000 in
set_option maxRecDepth 100000 in
theorem kX12_tally (l : Launch) (E : EX) (m0 x0 x1 x2 x3 x4 x5 x6 x7 x8 x9 n und nt : Nat) (tr : Int64) (Q : RS) (T : TS) (f : Nat → Int32) (a b : Int32) (hm : T.2.1 ≤ 6) : M l E yX12_tally wsX12_tally { frames := 2, cells := 0, slots := 0, locals := 46 } 0 0 [.ref m0, .int a, .int b] [(m0, oB 12 [.ref x0, .int (nI n), .int (nI Q.1), .int (nI Q.2.2.1), .int Q.2.1, .int Q.2.2.2, .ref x1, .ref x2, .ref x3, .ref x4, .int (nI und), .ref x5, .ref x6, .int (nI nt), .ref x7, .ref x8, .long tr, .ref x9]), (x2, iA E 21 (papO T)), (x3, iA E 50 (nowO f))] (is1 (some (.int (talS T.2.1 f a b))) [(m0, oB 12 [.ref x0, .int (nI n), .int (nI Q.1), .int (nI Q.2.2.1), .int Q.2.1, .int Q.2.2.2, .ref x1, .ref x2, .ref x3, .ref x4, .int (nI und), .ref x5, .ref x6, .int (nI nt), .ref x7, .ref x8, .long tr, .ref x9]), (x2, iA E 21 (papO T)), (x3, iA E 50 (nowO f))]) := by
  refine M.ofG (cc := cX12_tally) (maxL := 3) (ret := (some .int)) (lv := [(0, .ref m0), (1, .int a), (2, .int b)]) (own := RX12) (by decide) rfl rfl (Nat.le_of_ble_eq_true rfl) rfl ?_
  intro K C X _
  refine g_aload_n C dX12_tally_0 rfl 0 rfl ?_
  refine g_iload_n C dX12_tally_1 rfl 1 rfl ?_
  refine g_callV C (rest := []) (n := 1) (kX12_isPillow l E m0 x0 x1 x2 x3 x4 x5 x6 x7 x8 x9 n und nt tr Q T a (by omega)) gX12_tally_X12_isPillow rfl ⟨rfl, rfl⟩ (by decide) (Nat.le_of_ble_eq_true rfl) rfl (by decide +kernel) rfl dX12_tally_2 0 rfl rfl [0, 1] [2] rfl rfl ?_
  refine g_is1 (ws2 := [(m0, oB 12 [.ref x0, .int (nI n), .int (nI Q.1), .int (nI Q.2.2.1), .int Q.2.1, .int Q.2.2.2, .ref x1, .ref x2, .ref x3, .ref x4, .int (nI und), .ref x5, .ref x6, .int (nI nt), .ref x7, .ref x8, .long tr, .ref x9]), (x2, iA E 21 (papO T)), (x3, iA E 50 (nowO f))]) (st2 := [.int (bI (inR a T.2.1))]) [1, 2, 0] rfl rfl rfl ?_
  refine g_if_eqB C 38 dX12_tally_5 (by decide) (fun cq1 => ?_) (fun cq1 => ?_)
  · have hno : ¬ (inR a T.2.1 ∧ inR b T.2.1 ∧ ¬ a = b) := fun z => cq1 z.1
    refine g_iconst C ((-1)) dX12_tally_38 (by decide) ?_
    exact g_iret C X dX12_tally_39 (⟨by unfold talS; first | (rw [if_pos hok, hcl_i, hcl_j]; done) | (rw [if_neg hno]; done), rfl⟩)
  · refine g_aload_n C dX12_tally_8 rfl 0 rfl ?_
    refine g_iload_n C dX12_tally_9 rfl 2 rfl ?_
    refine g_callV C (rest := []) (n := 1) (kX12_isPillow l E m0 x0 x1 x2 x3 x4 x5 x6 x7 x8 x9 n und nt tr Q T b (by omega)) gX12_tally_X12_isPillow rfl ⟨rfl, rfl⟩ (by decide) (Nat.le_of_ble_eq_true rfl) rfl (by decide +kernel) rfl dX12_tally_10 0 rfl rfl [0, 1] [2] rfl rfl ?_
    refine g_is1 (ws2 := [(m0, oB 12 [.ref x0, .int (nI n), .int (nI Q.1), .int (nI Q.2.2.1), .int Q.2.1, .int Q.2.2.2, .ref x1, .ref x2, .ref x3, .ref x4, .int (nI und), .ref x5, .ref x6, .int (nI nt), .ref x7, .ref x8, .long tr, .ref x9]), (x2, iA E 21 (papO T)), (x3, iA E 50 (nowO f))]) (st2 := [.int (bI (inR b T.2.1))]) [1, 2, 0] rfl rfl rfl ?_
    refine g_if_eqB C 38 dX12_tally_13 (by decide) (fun cq2 => ?_) (fun cq2 => ?_)
    · have hno : ¬ (inR a T.2.1 ∧ inR b T.2.1 ∧ ¬ a = b) := fun z => cq2 z.2.1
      refine g_iconst C ((-1)) dX12_tally_38 (by decide) ?_
      exact g_iret C X dX12_tally_39 (⟨by unfold talS; first | (rw [if_pos hok, hcl_i, hcl_j]; done) | (rw [if_neg hno]; done), rfl⟩)
    · refine g_iload_n C dX12_tally_16 rfl 1 rfl ?_
      refine g_iload_n C dX12_tally_17 rfl 2 rfl ?_
      refine g_icmp_eq C 38 dX12_tally_18 (by decide) (fun cq3 => ?_) (fun cq3 => ?_)
      · have hno : ¬ (inR a T.2.1 ∧ inR b T.2.1 ∧ ¬ a = b) := fun z => z.2.2 cq3
        refine g_iconst C ((-1)) dX12_tally_38 (by decide) ?_
        exact g_iret C X dX12_tally_39 (⟨by unfold talS; first | (rw [if_pos hok, hcl_i, hcl_j]; done) | (rw [if_neg hno]; done), rfl⟩)
      · have hok : inR a T.2.1 ∧ inR b T.2.1 ∧ ¬ a = b := ⟨cq1, cq2, cq3⟩
        obtain ⟨i, hj_i, rfl⟩ := inR_of (n := T.2.1) (by omega) cq1
        have hcl_i : (nI i).toNatClampNeg = i := nI_clamp (by omega)
        obtain ⟨j, hj_j, rfl⟩ := inR_of (n := T.2.1) (by omega) cq2
        have hcl_j : (nI j).toNatClampNeg = j := nI_clamp (by omega)
        refine g_aload_n C dX12_tally_21 rfl 0 rfl ?_
        refine g_iload_n C dX12_tally_22 rfl 1 rfl ?_
        refine g_callV C (rest := []) (n := 1) (kX12_hears l E m0 x0 x1 x2 x3 x4 x5 x6 x7 x8 x9 n und nt tr Q f i (by omega)) gX12_tally_X12_hears rfl ⟨rfl, rfl⟩ (by decide) (Nat.le_of_ble_eq_true rfl) rfl (by decide +kernel) rfl dX12_tally_23 0 rfl rfl [0, 2] [1] rfl rfl ?_
        refine g_is1 (ws2 := [(m0, oB 12 [.ref x0, .int (nI n), .int (nI Q.1), .int (nI Q.2.2.1), .int Q.2.1, .int Q.2.2.2, .ref x1, .ref x2, .ref x3, .ref x4, .int (nI und), .ref x5, .ref x6, .int (nI nt), .ref x7, .ref x8, .long tr, .ref x9]), (x2, iA E 21 (papO T)), (x3, iA E 50 (nowO f))]) (st2 := [.int (thOn f i 7)]) [1, 0, 2] rfl rfl rfl ?_
        refine g_aload_n C dX12_tally_26 rfl 0 rfl ?_
        refine g_iload_n C dX12_tally_27 rfl 2 rfl ?_
        refine g_callV C (rest := [.int (thOn f i 7)]) (n := 1) (kX12_hears l E m0 x0 x1 x2 x3 x4 x5 x6 x7 x8 x9 n und nt tr Q f j (by omega)) gX12_tally_X12_hears rfl ⟨rfl, rfl⟩ (by decide) (Nat.le_of_ble_eq_true rfl) rfl (by decide +kernel) rfl dX12_tally_28 0 rfl rfl [0, 2] [1] rfl rfl ?_
        refine g_is1 (ws2 := [(m0, oB 12 [.ref x0, .int (nI n), .int (nI Q.1), .int (nI Q.2.2.1), .int Q.2.1, .int Q.2.2.2, .ref x1, .ref x2, .ref x3, .ref x4, .int (nI und), .ref x5, .ref x6, .int (nI nt), .ref x7, .ref x8, .long tr, .ref x9]), (x2, iA E 21 (papO T)), (x3, iA E 50 (nowO f))]) (st2 := [.int (thOn f j 7), .int (thOn f i 7)]) [1, 0, 2] rfl rfl rfl ?_
        refine g_ixor C dX12_tally_31 ?_
        refine g_callS C (rest := []) (n := 1) (kX12_many l E ((thOn f i 7) ^^^ (thOn f j 7)) (s7_xor (thOn_s7 _ _) (thOn_s7 _ _))) gX12_tally_X12_many rfl ⟨rfl, rfl⟩ (by decide) (Nat.le_of_ble_eq_true rfl) rfl (by decide +kernel) rfl dX12_tally_32 [] [0, 1, 2] rfl rfl ?_
        refine g_is1 (ws2 := [(m0, oB 12 [.ref x0, .int (nI n), .int (nI Q.1), .int (nI Q.2.2.1), .int Q.2.1, .int Q.2.2.2, .ref x1, .ref x2, .ref x3, .ref x4, .int (nI und), .ref x5, .ref x6, .int (nI nt), .ref x7, .ref x8, .long tr, .ref x9]), (x2, iA E 21 (papO T)), (x3, iA E 50 (nowO f))]) (st2 := [.int (bc ((thOn f i 7) ^^^ (thOn f j 7)))]) [0, 1, 2] rfl rfl rfl ?_
        refine g_goto C 39 dX12_tally_35 (by decide) ?_
        exact g_iret C X dX12_tally_39 (⟨by unfold talS; first | (rw [if_pos hok, hcl_i, hcl_j]; done) | (rw [if_neg hno]; done), rfl⟩)

set_option maxHeartbeats 4000000 in
set_option maxRecDepth 100000 in
theorem kX12_next (l : Launch) (E : EX) (m0 x0 x1 x2 x3 x4 x5 x6 x7 x8 x9 n und nt : Nat) (tr : Int64) (Q : RS) (T : TS) (f : Nat → Int32) (hm : T.2.1 ≤ 6) (hS : SI T f) : M l E yX12_next wsX12_next { frames := 3, cells := 0, slots := 0, locals := 68 } 0 0 [.ref m0] [(m0, oB 12 [.ref x0, .int (nI n), .int (nI Q.1), .int (nI Q.2.2.1), .int Q.2.1, .int Q.2.2.2, .ref x1, .ref x2, .ref x3, .ref x4, .int (nI und), .ref x5, .ref x6, .int (nI nt), .ref x7, .ref x8, .long tr, .ref x9]), (x2, iA E 21 (papO T)), (x3, iA E 50 (nowO f))] (is1 (some (.int ((nxS f T.2.1).1))) [(m0, oB 12 [.ref x0, .int (nI n), .int (nI Q.1), .int (nI Q.2.2.1), .int Q.2.1, .int Q.2.2.2, .ref x1, .ref x2, .ref x3, .ref x4, .int (nI und), .ref x5, .ref x6, .int (nI nt), .ref x7, .ref x8, .long tr, .ref x9]), (x2, iA E 21 (papO T)), (x3, iA E 50 (nowO f))]) := by
  refine M.ofG (cc := cX12_next) (maxL := 6) (ret := (some .int)) (lv := [(0, .ref m0)]) (own := RX12) (by decide) rfl rfl (Nat.le_of_ble_eq_true rfl) rfl ?_
  intro K C X _
  have i12 : ∀ w ∈ wsX120, w ∈ wsX12_next := by decide +kernel
  refine g_aload_n C dX12_next_0 rfl 0 rfl ?_
  refine g_aload_n C dX12_next_1 rfl 0 rfl ?_
  refine g_get C i12 0 rfl rfl 8 (by decide) (List.mem_of_getElem? (i := 1) rfl) rfl rfl dX12_next_2 ?_
  refine g_iconst C (nI 1) dX12_next_5 (by decide) ?_
  refine g_iald C 2 rfl (by omega) (by decide) dX12_next_6 ?_
  refine g_as (nowO_1 _) ?_
  refine g_callV C (rest := []) (n := 1) (kX12_hear l E m0 x0 x1 x2 x3 x4 x5 x6 x7 x8 x9 n und nt tr Q T f (f 48) (hm) (hS)) gX12_next_X12_hear rfl ⟨rfl, rfl⟩ (by decide) (Nat.le_of_ble_eq_true rfl) rfl (by decide +kernel) rfl dX12_next_7 0 rfl rfl [0, 1, 2] [] rfl rfl ?_
  refine g_is1 (ws2 := [(m0, oB 12 [.ref x0, .int (nI n), .int (nI Q.1), .int (nI Q.2.2.1), .int Q.2.1, .int Q.2.2.2, .ref x1, .ref x2, .ref x3, .ref x4, .int (nI und), .ref x5, .ref x6, .int (nI nt), .ref x7, .ref x8, .long tr, .ref x9]), (x2, iA E 21 (papO T)), (x3, iA E 50 (nowO f))]) (st2 := [.int (thSet f (f 48) 6)]) [0, 1, 2] rfl rfl rfl ?_
  refine g_istore_n C (lv' := [(1, .int (thSet f (f 48) 6)), (0, .ref m0)]) dX12_next_10 rfl (by decide) rfl ?_
  refine g_bipush C ((-9)) dX12_next_11 (by decide) ?_
  refine g_istore_n C (lv' := [(2, .int (-9)), (1, .int (thSet f (f 48) 6)), (0, .ref m0)]) dX12_next_13 rfl (by decide) rfl ?_
  refine g_iconst C ((-1)) dX12_next_14 (by decide) ?_
  refine g_istore_n C (lv' := [(3, .int (-1)), (2, .int (-9)), (1, .int (thSet f (f 48) 6)), (0, .ref m0)]) dX12_next_15 rfl (by decide) rfl ?_
  refine g_iconst C (nI 0) dX12_next_16 (by decide) ?_
  refine g_istore C (lv' := [(4, .int (nI 0)), (3, .int (-1)), (2, .int (-9)), (1, .int (thSet f (f 48) 6)), (0, .ref m0)]) dX12_next_17 (by decide) rfl ?_
  have L19 : ∀ (zz k : Nat) (a : Int32) (b : Int32), k + zz = T.2.1 + 1 → k ≤ T.2.1 → (a = (nxS f k).1) → (b = (nxS f k).2) → ((-1) ≤ b) → G K 0 0 19 [(0, .ref m0), (1, .int (thSet f (f 48) 6)), (2, .int a), (3, .int b), (4, .int (nI k))] [] [(m0, oB 12 [.ref x0, .int (nI n), .int (nI Q.1), .int (nI Q.2.2.1), .int Q.2.1, .int Q.2.2.2, .ref x1, .ref x2, .ref x3, .ref x4, .int (nI und), .ref x5, .ref x6, .int (nI nt), .ref x7, .ref x8, .long tr, .ref x9]), (x2, iA E 21 (papO T)), (x3, iA E 50 (nowO f))] := by
    intro zz
    induction zz with
    | zero => intro k a b hL19 gL19; exfalso; omega
    | succ zz ihL19 =>
      intro k a b hL19 gL19 ha hb hb1
      refine g_iload C dX12_next_19 4 rfl ?_
      refine g_aload_n C dX12_next_21 rfl 0 rfl ?_
      refine g_get C i12 0 rfl rfl 7 (by decide) (List.mem_of_getElem? (i := 2) rfl) rfl rfl dX12_next_22 ?_
      refine g_iconst C (nI 1) dX12_next_25 (by decide) ?_
      refine g_iald C 1 rfl (by omega) (by decide) dX12_next_26 ?_
      refine g_as (papO_1 _) ?_
      refine g_icmp_geN C 96 dX12_next_27 (by decide) (by omega) (by omega) (fun cq1 => ?_) (fun cq1 => ?_)
      · have hk : k = T.2.1 := by omega
        refine g_iload_n C dX12_next_96 rfl 2 rfl ?_
        exact g_iret C X dX12_next_97 (⟨by rw [ha, hk], rfl⟩)
      · refine g_aload_n C dX12_next_30 rfl 0 rfl ?_
        refine g_get C i12 0 rfl rfl 8 (by decide) (List.mem_of_getElem? (i := 1) rfl) rfl rfl dX12_next_31 ?_
        refine g_iconst C (nI 1) dX12_next_34 (by decide) ?_
        refine g_iald C 2 rfl (by omega) (by decide) dX12_next_35 ?_
        refine g_as (nowO_1 _) ?_
        refine g_iload C dX12_next_36 4 rfl ?_
        refine g_ishr C dX12_next_38 ?_
        refine g_iconst C (nI 1) dX12_next_39 (by decide) ?_
        refine g_iand C dX12_next_40 ?_
        refine g_iconst C (nI 1) dX12_next_41 (by decide) ?_
        refine g_icmp_ne C 49 dX12_next_42 (by decide) (fun cq2 => ?_) (fun cq2 => ?_)
        · have hx9 := cq2
          refine g_aload_n C dX12_next_49 rfl 0 rfl ?_
          refine g_iload C dX12_next_50 4 rfl ?_
          refine g_callV C (rest := []) (n := 1) (kX12_hears l E m0 x0 x1 x2 x3 x4 x5 x6 x7 x8 x9 n und nt tr Q f k (by omega)) gX12_next_X12_hears rfl ⟨rfl, rfl⟩ (by decide) (Nat.le_of_ble_eq_true rfl) rfl (by decide +kernel) rfl dX12_next_52 0 rfl rfl [0, 2] [1] rfl rfl ?_
          refine g_is1 (ws2 := [(m0, oB 12 [.ref x0, .int (nI n), .int (nI Q.1), .int (nI Q.2.2.1), .int Q.2.1, .int Q.2.2.2, .ref x1, .ref x2, .ref x3, .ref x4, .int (nI und), .ref x5, .ref x6, .int (nI nt), .ref x7, .ref x8, .long tr, .ref x9]), (x2, iA E 21 (papO T)), (x3, iA E 50 (nowO f))]) (st2 := [.int (thOn f k 7)]) [1, 0, 2] rfl rfl rfl ?_
          refine g_iload_n C dX12_next_55 rfl 1 rfl ?_
          refine g_iconst C ((-1)) dX12_next_56 (by decide) ?_
          refine g_ixor C dX12_next_57 ?_
          refine g_iand C dX12_next_58 ?_
          refine g_callS C (rest := []) (n := 1) (kX12_many l E ((thOn f k 7) &&& ((thSet f (f 48) 6) ^^^ (-1))) (s7_andl (thOn_s7 _ _) _)) gX12_next_X12_many rfl ⟨rfl, rfl⟩ (by decide) (Nat.le_of_ble_eq_true rfl) rfl (by decide +kernel) rfl dX12_next_59 [] [0, 1, 2] rfl rfl ?_
          refine g_is1 (ws2 := [(m0, oB 12 [.ref x0, .int (nI n), .int (nI Q.1), .int (nI Q.2.2.1), .int Q.2.1, .int Q.2.2.2, .ref x1, .ref x2, .ref x3, .ref x4, .int (nI und), .ref x5, .ref x6, .int (nI nt), .ref x7, .ref x8, .long tr, .ref x9]), (x2, iA E 21 (papO T)), (x3, iA E 50 (nowO f))]) (st2 := [.int (bc ((thOn f k 7) &&& ((thSet f (f 48) 6) ^^^ (-1))))]) [0, 1, 2] rfl rfl rfl ?_
          refine g_istore C (lv' := [(5, .int (bc ((thOn f k 7) &&& ((thSet f (f 48) 6) ^^^ (-1))))), (0, .ref m0), (1, .int (thSet f (f 48) 6)), (2, .int a), (3, .int b), (4, .int (nI k))]) dX12_next_62 (by decide) rfl ?_
          refine g_iload C dX12_next_64 0 rfl ?_
          refine g_iload_n C dX12_next_66 rfl 4 rfl ?_
          refine g_icmp_le C 75 dX12_next_67 (by decide) (fun cq3 => ?_) (fun cq3 => ?_)
          · refine g_iload_n C dX12_next_75 rfl 3 rfl ?_
            refine g_istore_n C (lv' := [(2, .int a), (5, .int (bc ((thOn f k 7) &&& ((thSet f (f 48) 6) ^^^ (-1))))), (0, .ref m0), (1, .int (thSet f (f 48) 6)), (3, .int b), (4, .int (nI k))]) dX12_next_76 rfl (by decide) rfl ?_
            refine g_iload C dX12_next_77 1 rfl ?_
            refine g_iload_n C dX12_next_79 rfl 4 rfl ?_
            refine g_icmp_le C 88 dX12_next_80 (by decide) (fun cq4 => ?_) (fun cq4 => ?_)
            · refine g_iload_n C dX12_next_88 rfl 4 rfl ?_
              refine g_istore_n C (lv' := [(3, .int b), (2, .int a), (5, .int (bc ((thOn f k 7) &&& ((thSet f (f 48) 6) ^^^ (-1))))), (0, .ref m0), (1, .int (thSet f (f 48) 6)), (4, .int (nI k))]) dX12_next_89 rfl (by decide) rfl ?_
              refine g_iincN C (lv' := [(4, .int (nI (k + 1))), (3, .int b), (2, .int a), (5, .int (bc ((thOn f k 7) &&& ((thSet f (f 48) 6) ^^^ (-1))))), (0, .ref m0), (1, .int (thSet f (f 48) 6))]) dX12_next_90 5 rfl (by decide) rfl ?_
              refine g_goto C 19 dX12_next_93 (by decide) ?_
              refine g_sub (lv' := [(0, .ref m0), (1, .int (thSet f (f 48) 6)), (2, .int a), (3, .int b), (4, .int (nI (k + 1)))]) [4, 5, 2, 1, 0] rfl ?_
              exact ihL19 (k + 1) a b (by omega) (by omega) (by rw [nxS]; first | (rw [if_pos (tb_1 hx9), ← ha]; done) | (rw [if_neg (fun z => z (tb_n1 hx9)), ← hb, if_pos (show nxF f k ≤ b from cq3), ← ha]; done) | (rw [if_neg (fun z => z (tb_n1 hx9)), ← hb, if_neg (show ¬ nxF f k ≤ b from cq3)]; done)) (by rw [nxS]; first | (rw [if_pos (tb_1 hx9), ← hb]; done) | (rw [if_neg (fun z => z (tb_n1 hx9)), ← hb, if_pos (show nxF f k ≤ b from cq3), ← hb]; done) | (rw [if_neg (fun z => z (tb_n1 hx9)), ← hb, if_neg (show ¬ nxF f k ≤ b from cq3)]; rfl)) (by first | exact hb1 | exact s7_bc (s7_andl (thOn_s7 _ _) _))
            · exact absurd cq3 cq4
          · refine g_iload C dX12_next_70 5 rfl ?_
            refine g_goto C 76 dX12_next_72 (by decide) ?_
            refine g_istore_n C (lv' := [(2, .int (nI k)), (5, .int (bc ((thOn f k 7) &&& ((thSet f (f 48) 6) ^^^ (-1))))), (0, .ref m0), (1, .int (thSet f (f 48) 6)), (3, .int b), (4, .int (nI k))]) dX12_next_76 rfl (by decide) rfl ?_
            refine g_iload C dX12_next_77 1 rfl ?_
            refine g_iload_n C dX12_next_79 rfl 4 rfl ?_
            refine g_icmp_le C 88 dX12_next_80 (by decide) (fun cq5 => ?_) (fun cq5 => ?_)
            · exact absurd cq5 cq3
            · refine g_iload C dX12_next_83 1 rfl ?_
              refine g_goto C 89 dX12_next_85 (by decide) ?_
              refine g_istore_n C (lv' := [(3, .int (bc ((thOn f k 7) &&& ((thSet f (f 48) 6) ^^^ (-1))))), (2, .int (nI k)), (5, .int (bc ((thOn f k 7) &&& ((thSet f (f 48) 6) ^^^ (-1))))), (0, .ref m0), (1, .int (thSet f (f 48) 6)), (4, .int (nI k))]) dX12_next_89 rfl (by decide) rfl ?_
              refine g_iincN C (lv' := [(4, .int (nI (k + 1))), (3, .int (bc ((thOn f k 7) &&& ((thSet f (f 48) 6) ^^^ (-1))))), (2, .int (nI k)), (5, .int (bc ((thOn f k 7) &&& ((thSet f (f 48) 6) ^^^ (-1))))), (0, .ref m0), (1, .int (thSet f (f 48) 6))]) dX12_next_90 5 rfl (by decide) rfl ?_
              refine g_goto C 19 dX12_next_93 (by decide) ?_
              refine g_sub (lv' := [(0, .ref m0), (1, .int (thSet f (f 48) 6)), (2, .int (nI k)), (3, .int (bc ((thOn f k 7) &&& ((thSet f (f 48) 6) ^^^ (-1))))), (4, .int (nI (k + 1)))]) [4, 5, 2, 1, 0] rfl ?_
              exact ihL19 (k + 1) (nI k) (bc ((thOn f k 7) &&& ((thSet f (f 48) 6) ^^^ (-1)))) (by omega) (by omega) (by rw [nxS]; first | (rw [if_pos (tb_1 hx9), ← ha]; done) | (rw [if_neg (fun z => z (tb_n1 hx9)), ← hb, if_pos (show nxF f k ≤ b from cq3), ← ha]; done) | (rw [if_neg (fun z => z (tb_n1 hx9)), ← hb, if_neg (show ¬ nxF f k ≤ b from cq3)]; done)) (by rw [nxS]; first | (rw [if_pos (tb_1 hx9), ← hb]; done) | (rw [if_neg (fun z => z (tb_n1 hx9)), ← hb, if_pos (show nxF f k ≤ b from cq3), ← hb]; done) | (rw [if_neg (fun z => z (tb_n1 hx9)), ← hb, if_neg (show ¬ nxF f k ≤ b from cq3)]; rfl)) (by first | exact hb1 | exact s7_bc (s7_andl (thOn_s7 _ _) _))
        · have hx9 := cq2
          refine g_iconst C ((-1)) dX12_next_45 (by decide) ?_
          refine g_goto C 62 dX12_next_46 (by decide) ?_
          refine g_istore C (lv' := [(5, .int (-1)), (0, .ref m0), (1, .int (thSet f (f 48) 6)), (2, .int a), (3, .int b), (4, .int (nI k))]) dX12_next_62 (by decide) rfl ?_
          refine g_iload C dX12_next_64 0 rfl ?_
          refine g_iload_n C dX12_next_66 rfl 4 rfl ?_
          refine g_icmp_le C 75 dX12_next_67 (by decide) (fun cq6 => ?_) (fun cq6 => ?_)
          · refine g_iload_n C dX12_next_75 rfl 3 rfl ?_
            refine g_istore_n C (lv' := [(2, .int a), (5, .int (-1)), (0, .ref m0), (1, .int (thSet f (f 48) 6)), (3, .int b), (4, .int (nI k))]) dX12_next_76 rfl (by decide) rfl ?_
            refine g_iload C dX12_next_77 1 rfl ?_
            refine g_iload_n C dX12_next_79 rfl 4 rfl ?_
            refine g_icmp_le C 88 dX12_next_80 (by decide) (fun cq7 => ?_) (fun cq7 => ?_)
            · refine g_iload_n C dX12_next_88 rfl 4 rfl ?_
              refine g_istore_n C (lv' := [(3, .int b), (2, .int a), (5, .int (-1)), (0, .ref m0), (1, .int (thSet f (f 48) 6)), (4, .int (nI k))]) dX12_next_89 rfl (by decide) rfl ?_
              refine g_iincN C (lv' := [(4, .int (nI (k + 1))), (3, .int b), (2, .int a), (5, .int (-1)), (0, .ref m0), (1, .int (thSet f (f 48) 6))]) dX12_next_90 5 rfl (by decide) rfl ?_
              refine g_goto C 19 dX12_next_93 (by decide) ?_
              refine g_sub (lv' := [(0, .ref m0), (1, .int (thSet f (f 48) 6)), (2, .int a), (3, .int b), (4, .int (nI (k + 1)))]) [4, 5, 2, 1, 0] rfl ?_
              exact ihL19 (k + 1) a b (by omega) (by omega) (by rw [nxS]; first | (rw [if_pos (tb_1 hx9), ← ha]; done) | (rw [if_neg (fun z => z (tb_n1 hx9)), ← hb, if_pos (show nxF f k ≤ b from cq6), ← ha]; done) | (rw [if_neg (fun z => z (tb_n1 hx9)), ← hb, if_neg (show ¬ nxF f k ≤ b from cq6)]; done)) (by rw [nxS]; first | (rw [if_pos (tb_1 hx9), ← hb]; done) | (rw [if_neg (fun z => z (tb_n1 hx9)), ← hb, if_pos (show nxF f k ≤ b from cq6), ← hb]; done) | (rw [if_neg (fun z => z (tb_n1 hx9)), ← hb, if_neg (show ¬ nxF f k ≤ b from cq6)]; rfl)) (by first | exact hb1 | exact s7_bc (s7_andl (thOn_s7 _ _) _))
            · exact absurd cq6 cq7
          · exact absurd hb1 cq6
  refine g_sub (lv' := [(0, .ref m0), (1, .int (thSet f (f 48) 6)), (2, .int (-9)), (3, .int (-1)), (4, .int (nI 0))]) [4, 3, 2, 1, 0] rfl ?_
  exact L19 (T.2.1 + 1 - 0) 0 (-9) (-1) (by omega) (by omega) (rfl) (rfl) (by decide)

set_option maxHeartbeats 4000000 in
set_option maxRecDepth 100000 in
theorem kX12_looks (l : Launch) (E : EX) (m0 x0 x1 x2 x3 x4 x5 x6 x7 x8 x9 n und nt : Nat) (tr : Int64) (Q : RS) (T : TS) (f : Nat → Int32) (hm : T.2.1 ≤ 6) (hS : SI T f) : M l E yX12_looks wsX12_looks { frames := 3, cells := 0, slots := 0, locals := 68 } 0 0 [.ref m0] [(m0, oB 12 [.ref x0, .int (nI n), .int (nI Q.1), .int (nI Q.2.2.1), .int Q.2.1, .int Q.2.2.2, .ref x1, .ref x2, .ref x3, .ref x4, .int (nI und), .ref x5, .ref x6, .int (nI nt), .ref x7, .ref x8, .long tr, .ref x9]), (x2, iA E 21 (papO T)), (x3, iA E 50 (nowO f))] (is1 (some (.int (lkS f (2 ^ T.2.1)))) [(m0, oB 12 [.ref x0, .int (nI n), .int (nI Q.1), .int (nI Q.2.2.1), .int Q.2.1, .int Q.2.2.2, .ref x1, .ref x2, .ref x3, .ref x4, .int (nI und), .ref x5, .ref x6, .int (nI nt), .ref x7, .ref x8, .long tr, .ref x9]), (x2, iA E 21 (papO T)), (x3, iA E 50 (nowO f))]) := by
  refine M.ofG (cc := cX12_looks) (maxL := 5) (ret := (some .int)) (lv := [(0, .ref m0)]) (own := RX12) (by decide) rfl rfl (Nat.le_of_ble_eq_true rfl) rfl ?_
  intro K C X _
  have i12 : ∀ w ∈ wsX120, w ∈ wsX12_looks := by decide +kernel
  refine g_aload_n C dX12_looks_0 rfl 0 rfl ?_
  refine g_bipush C (nI 63) dX12_looks_1 (by decide) ?_
  refine g_callV C (rest := []) (n := 1) (kX12_hear l E m0 x0 x1 x2 x3 x4 x5 x6 x7 x8 x9 n und nt tr Q T f (nI 63) (hm) (hS)) gX12_looks_X12_hear rfl ⟨rfl, rfl⟩ (by decide) (Nat.le_of_ble_eq_true rfl) rfl (by decide +kernel) rfl dX12_looks_3 0 rfl rfl [0, 1, 2] [] rfl rfl ?_
  refine g_is1 (ws2 := [(m0, oB 12 [.ref x0, .int (nI n), .int (nI Q.1), .int (nI Q.2.2.1), .int Q.2.1, .int Q.2.2.2, .ref x1, .ref x2, .ref x3, .ref x4, .int (nI und), .ref x5, .ref x6, .int (nI nt), .ref x7, .ref x8, .long tr, .ref x9]), (x2, iA E 21 (papO T)), (x3, iA E 50 (nowO f))]) (st2 := [.int (thSet f (nI 63) 6)]) [0, 1, 2] rfl rfl rfl ?_
  refine g_istore_n C (lv' := [(1, .int (thSet f (nI 63) 6)), (0, .ref m0)]) dX12_looks_6 rfl (by decide) rfl ?_
  refine g_bipush C ((-9)) dX12_looks_7 (by decide) ?_
  refine g_istore_n C (lv' := [(2, .int (-9)), (1, .int (thSet f (nI 63) 6)), (0, .ref m0)]) dX12_looks_9 rfl (by decide) rfl ?_
  refine g_iconst C (nI 0) dX12_looks_10 (by decide) ?_
  refine g_istore_n C (lv' := [(3, .int (nI 0)), (2, .int (-9)), (1, .int (thSet f (nI 63) 6)), (0, .ref m0)]) dX12_looks_11 rfl (by decide) rfl ?_
  have L12 : ∀ (zz k : Nat) (a : Int32), k + zz = (2 ^ T.2.1) + 1 → k ≤ 2 ^ T.2.1 → (a = lkS f k) → (a = (-9) ∨ s7 a) → G K 0 0 12 [(0, .ref m0), (1, .int (thSet f (nI 63) 6)), (2, .int a), (3, .int (nI k))] [] [(m0, oB 12 [.ref x0, .int (nI n), .int (nI Q.1), .int (nI Q.2.2.1), .int Q.2.1, .int Q.2.2.2, .ref x1, .ref x2, .ref x3, .ref x4, .int (nI und), .ref x5, .ref x6, .int (nI nt), .ref x7, .ref x8, .long tr, .ref x9]), (x2, iA E 21 (papO T)), (x3, iA E 50 (nowO f))] := by
    intro zz
    induction zz with
    | zero => intro k a hL12 gL12; exfalso; omega
    | succ zz ihL12 =>
      intro k a hL12 gL12 ha hs
      have h64 : 2 ^ T.2.1 ≤ 64 := p2_64 hm
      refine g_iload_n C dX12_looks_12 rfl 3 rfl ?_
      refine g_iconst C (nI 1) dX12_looks_13 (by decide) ?_
      refine g_aload_n C dX12_looks_14 rfl 0 rfl ?_
      refine g_get C i12 0 rfl rfl 7 (by decide) (List.mem_of_getElem? (i := 1) rfl) rfl rfl dX12_looks_15 ?_
      refine g_iconst C (nI 1) dX12_looks_18 (by decide) ?_
      refine g_iald C 1 rfl (by omega) (by decide) dX12_looks_19 ?_
      refine g_as (papO_1 _) ?_
      refine g_ishl1 C dX12_looks_20 (by omega) ?_
      refine g_icmp_geN C 84 dX12_looks_21 (by decide) (by omega) (by omega) (fun cq1 => ?_) (fun cq1 => ?_)
      · have hk : k = 2 ^ T.2.1 := by omega
        refine g_iload_n C dX12_looks_84 rfl 2 rfl ?_
        exact g_iret C X dX12_looks_85 (⟨by rw [ha, hk], rfl⟩)
      · refine g_iload_n C dX12_looks_24 rfl 1 rfl ?_
        refine g_aload_n C dX12_looks_25 rfl 0 rfl ?_
        refine g_iload_n C dX12_looks_26 rfl 3 rfl ?_
        refine g_aload_n C dX12_looks_27 rfl 0 rfl ?_
        refine g_get C i12 0 rfl rfl 8 (by decide) (List.mem_of_getElem? (i := 2) rfl) rfl rfl dX12_looks_28 ?_
        refine g_iconst C (nI 1) dX12_looks_31 (by decide) ?_
        refine g_iald C 2 rfl (by omega) (by decide) dX12_looks_32 ?_
        refine g_as (nowO_1 _) ?_
        refine g_ior C dX12_looks_33 ?_
        refine g_callV C (rest := [.int (thSet f (nI 63) 6)]) (n := 1) (kX12_hear l E m0 x0 x1 x2 x3 x4 x5 x6 x7 x8 x9 n und nt tr Q T f ((nI k) ||| (f 48)) (hm) (hS)) gX12_looks_X12_hear rfl ⟨rfl, rfl⟩ (by decide) (Nat.le_of_ble_eq_true rfl) rfl (by decide +kernel) rfl dX12_looks_34 0 rfl rfl [0, 1, 2] [] rfl rfl ?_
        refine g_is1 (ws2 := [(m0, oB 12 [.ref x0, .int (nI n), .int (nI Q.1), .int (nI Q.2.2.1), .int Q.2.1, .int Q.2.2.2, .ref x1, .ref x2, .ref x3, .ref x4, .int (nI und), .ref x5, .ref x6, .int (nI nt), .ref x7, .ref x8, .long tr, .ref x9]), (x2, iA E 21 (papO T)), (x3, iA E 50 (nowO f))]) (st2 := [.int (thSet f ((nI k) ||| (f 48)) 6), .int (thSet f (nI 63) 6)]) [0, 1, 2] rfl rfl rfl ?_
        refine g_iconst C ((-1)) dX12_looks_37 (by decide) ?_
        refine g_ixor C dX12_looks_38 ?_
        refine g_iand C dX12_looks_39 ?_
        refine g_if_ne C 47 dX12_looks_40 (by decide) (fun cq2 => ?_) (fun cq2 => ?_)
        · have hz9 := cq2
          refine g_iconst C (nI 0) dX12_looks_47 (by decide) ?_
          refine g_istore C (lv' := [(4, .int (nI 0)), (0, .ref m0), (1, .int (thSet f (nI 63) 6)), (2, .int a), (3, .int (nI k))]) dX12_looks_48 (by decide) rfl ?_
          refine g_iload C dX12_looks_50 0 rfl ?_
          refine g_if_eqN C 76 dX12_looks_52 (by decide) (by omega) (fun cq3 => ?_) (fun cq3 => ?_)
          · refine g_iload_n C dX12_looks_76 rfl 3 rfl ?_
            refine g_istore_n C (lv' := [(2, .int a), (4, .int (nI 0)), (0, .ref m0), (1, .int (thSet f (nI 63) 6)), (3, .int (nI k))]) dX12_looks_77 rfl (by decide) rfl ?_
            refine g_iincN C (lv' := [(3, .int (nI (k + 1))), (2, .int a), (4, .int (nI 0)), (0, .ref m0), (1, .int (thSet f (nI 63) 6))]) dX12_looks_78 4 rfl (by decide) rfl ?_
            refine g_goto C 12 dX12_looks_81 (by decide) ?_
            refine g_sub (lv' := [(0, .ref m0), (1, .int (thSet f (nI 63) 6)), (2, .int a), (3, .int (nI (k + 1)))]) [3, 4, 1, 0] rfl ?_
            exact ihL12 (k + 1) a (by omega) (by omega) (by rw [lkS]; first | (rw [if_neg (fun z => hz9 ((lk_iff f _).mpr z)), ← ha]; done) | (rw [if_pos ((lk_iff f _).mp hz9), ← ha, fewS]; first | (rw [if_pos cq3]; done) | (rw [if_neg cq2, if_pos cq3]; done) | (rw [if_neg cq2, if_neg cq3]; done))) (by first | exact hs | exact Or.inr (s7_nI (by omega)))
          · exact absurd cq3 (by decide)
        · have hz9 := cq2
          refine g_iconst C (nI 1) dX12_looks_43 (by decide) ?_
          refine g_goto C 48 dX12_looks_44 (by decide) ?_
          refine g_istore C (lv' := [(4, .int (nI 1)), (0, .ref m0), (1, .int (thSet f (nI 63) 6)), (2, .int a), (3, .int (nI k))]) dX12_looks_48 (by decide) rfl ?_
          refine g_iload C dX12_looks_50 0 rfl ?_
          refine g_if_eqN C 76 dX12_looks_52 (by decide) (by omega) (fun cq4 => ?_) (fun cq4 => ?_)
          · exact absurd cq4 (by decide)
          · refine g_iload_n C dX12_looks_55 rfl 3 rfl ?_
            refine g_bipush C ((-9)) dX12_looks_56 (by decide) ?_
            refine g_icmp_eq C 72 dX12_looks_58 (by decide) (fun cq5 => ?_) (fun cq5 => ?_)
            · refine g_iload_n C dX12_looks_72 rfl 4 rfl ?_
              refine g_goto C 77 dX12_looks_73 (by decide) ?_
              refine g_istore_n C (lv' := [(2, .int (nI k)), (4, .int (nI 1)), (0, .ref m0), (1, .int (thSet f (nI 63) 6)), (3, .int (nI k))]) dX12_looks_77 rfl (by decide) rfl ?_
              refine g_iincN C (lv' := [(3, .int (nI (k + 1))), (2, .int (nI k)), (4, .int (nI 1)), (0, .ref m0), (1, .int (thSet f (nI 63) 6))]) dX12_looks_78 4 rfl (by decide) rfl ?_
              refine g_goto C 12 dX12_looks_81 (by decide) ?_
              refine g_sub (lv' := [(0, .ref m0), (1, .int (thSet f (nI 63) 6)), (2, .int (nI k)), (3, .int (nI (k + 1)))]) [3, 4, 1, 0] rfl ?_
              exact ihL12 (k + 1) (nI k) (by omega) (by omega) (by rw [lkS]; first | (rw [if_neg (fun z => hz9 ((lk_iff f _).mpr z)), ← ha]; done) | (rw [if_pos ((lk_iff f _).mp hz9), ← ha, fewS]; first | (rw [if_pos cq5]; done) | (rw [if_neg cq4, if_pos cq5]; done) | (rw [if_neg cq4, if_neg cq5]; done))) (by first | exact hs | exact Or.inr (s7_nI (by omega)))
            · refine g_iload_n C dX12_looks_61 rfl 4 rfl ?_
              refine g_callS C (rest := []) (n := 1) (kX12_many l E (nI k) (s7_nI (by omega))) gX12_looks_X12_many rfl ⟨rfl, rfl⟩ (by decide) (Nat.le_of_ble_eq_true rfl) rfl (by decide +kernel) rfl dX12_looks_62 [] [0, 1, 2] rfl rfl ?_
              refine g_is1 (ws2 := [(m0, oB 12 [.ref x0, .int (nI n), .int (nI Q.1), .int (nI Q.2.2.1), .int Q.2.1, .int Q.2.2.2, .ref x1, .ref x2, .ref x3, .ref x4, .int (nI und), .ref x5, .ref x6, .int (nI nt), .ref x7, .ref x8, .long tr, .ref x9]), (x2, iA E 21 (papO T)), (x3, iA E 50 (nowO f))]) (st2 := [.int (bc (nI k))]) [0, 1, 2] rfl rfl rfl ?_
              refine g_iload_n C dX12_looks_65 rfl 3 rfl ?_
              refine g_callS C (rest := [.int (bc (nI k))]) (n := 1) (kX12_many l E a (hs.resolve_left cq5)) gX12_looks_X12_many rfl ⟨rfl, rfl⟩ (by decide) (Nat.le_of_ble_eq_true rfl) rfl (by decide +kernel) rfl dX12_looks_66 [] [0, 1, 2] rfl rfl ?_
              refine g_is1 (ws2 := [(m0, oB 12 [.ref x0, .int (nI n), .int (nI Q.1), .int (nI Q.2.2.1), .int Q.2.1, .int Q.2.2.2, .ref x1, .ref x2, .ref x3, .ref x4, .int (nI und), .ref x5, .ref x6, .int (nI nt), .ref x7, .ref x8, .long tr, .ref x9]), (x2, iA E 21 (papO T)), (x3, iA E 50 (nowO f))]) (st2 := [.int (bc a), .int (bc (nI k))]) [0, 1, 2] rfl rfl rfl ?_
              refine g_icmp_ge C 76 dX12_looks_69 (by decide) (fun cq6 => ?_) (fun cq6 => ?_)
              · refine g_iload_n C dX12_looks_76 rfl 3 rfl ?_
                refine g_istore_n C (lv' := [(2, .int a), (4, .int (nI 1)), (0, .ref m0), (1, .int (thSet f (nI 63) 6)), (3, .int (nI k))]) dX12_looks_77 rfl (by decide) rfl ?_
                refine g_iincN C (lv' := [(3, .int (nI (k + 1))), (2, .int a), (4, .int (nI 1)), (0, .ref m0), (1, .int (thSet f (nI 63) 6))]) dX12_looks_78 4 rfl (by decide) rfl ?_
                refine g_goto C 12 dX12_looks_81 (by decide) ?_
                refine g_sub (lv' := [(0, .ref m0), (1, .int (thSet f (nI 63) 6)), (2, .int a), (3, .int (nI (k + 1)))]) [3, 4, 1, 0] rfl ?_
                exact ihL12 (k + 1) a (by omega) (by omega) (by rw [lkS]; first | (rw [if_neg (fun z => hz9 ((lk_iff f _).mpr z)), ← ha]; done) | (rw [if_pos ((lk_iff f _).mp hz9), ← ha, fewS]; first | (rw [if_pos cq6]; done) | (rw [if_neg cq5, if_pos cq6]; done) | (rw [if_neg cq5, if_neg cq6]; done))) (by first | exact hs | exact Or.inr (s7_nI (by omega)))
              · refine g_iload_n C dX12_looks_72 rfl 4 rfl ?_
                refine g_goto C 77 dX12_looks_73 (by decide) ?_
                refine g_istore_n C (lv' := [(2, .int (nI k)), (4, .int (nI 1)), (0, .ref m0), (1, .int (thSet f (nI 63) 6)), (3, .int (nI k))]) dX12_looks_77 rfl (by decide) rfl ?_
                refine g_iincN C (lv' := [(3, .int (nI (k + 1))), (2, .int (nI k)), (4, .int (nI 1)), (0, .ref m0), (1, .int (thSet f (nI 63) 6))]) dX12_looks_78 4 rfl (by decide) rfl ?_
                refine g_goto C 12 dX12_looks_81 (by decide) ?_
                refine g_sub (lv' := [(0, .ref m0), (1, .int (thSet f (nI 63) 6)), (2, .int (nI k)), (3, .int (nI (k + 1)))]) [3, 4, 1, 0] rfl ?_
                exact ihL12 (k + 1) (nI k) (by omega) (by omega) (by rw [lkS]; first | (rw [if_neg (fun z => hz9 ((lk_iff f _).mpr z)), ← ha]; done) | (rw [if_pos ((lk_iff f _).mp hz9), ← ha, fewS]; first | (rw [if_pos cq6]; done) | (rw [if_neg cq5, if_pos cq6]; done) | (rw [if_neg cq5, if_neg cq6]; done))) (by first | exact hs | exact Or.inr (s7_nI (by omega)))
  have h1p : 1 ≤ 2 ^ T.2.1 := Nat.one_le_two_pow
  refine g_sub (lv' := [(0, .ref m0), (1, .int (thSet f (nI 63) 6)), (2, .int (-9)), (3, .int (nI 0))]) [3, 2, 1, 0] rfl ?_
  exact L12 ((2 ^ T.2.1) + 1 - 0) 0 (-9) (by omega) (by omega) (rfl) (Or.inl rfl)

set_option maxHeartbeats 4000000 in
set_option maxRecDepth 100000 in
theorem kX12_explains (l : Launch) (E : EX) (m0 x0 x1 x2 x3 x4 x5 x6 x7 x8 x9 n und nt : Nat) (tr : Int64) (Q : RS) (T : TS) (f : Nat → Int32) (p q : Nat) (hp : p < T.1) (hn : T.1 ≤ 6) (hq : q < 6) : M l E yX12_explains wsX12_explains { frames := 1, cells := 0, slots := 0, locals := 22 } 0 0 [.ref m0, .int (nI p), .int (nI q)] [(m0, oB 12 [.ref x0, .int (nI n), .int (nI Q.1), .int (nI Q.2.2.1), .int Q.2.1, .int Q.2.2.2, .ref x1, .ref x2, .ref x3, .ref x4, .int (nI und), .ref x5, .ref x6, .int (nI nt), .ref x7, .ref x8, .long tr, .ref x9]), (x2, iA E 21 (papO T)), (x3, iA E 50 (nowO f))] (is1 (some (.int (tiOn f q (T.2.2.1 p) 7))) [(m0, oB 12 [.ref x0, .int (nI n), .int (nI Q.1), .int (nI Q.2.2.1), .int Q.2.1, .int Q.2.2.2, .ref x1, .ref x2, .ref x3, .ref x4, .int (nI und), .ref x5, .ref x6, .int (nI nt), .ref x7, .ref x8, .long tr, .ref x9]), (x2, iA E 21 (papO T)), (x3, iA E 50 (nowO f))]) := by
  refine M.ofG (cc := cX12_explains) (maxL := 5) (ret := (some .int)) (lv := [(0, .ref m0), (1, .int (nI p)), (2, .int (nI q))]) (own := RX12) (by decide) rfl rfl (Nat.le_of_ble_eq_true rfl) rfl ?_
  intro K C X _
  refine g_iconst C (nI 0) dX12_explains_0 (by decide) ?_
  refine g_istore_n C (lv' := [(3, .int (nI 0)), (0, .ref m0), (1, .int (nI p)), (2, .int (nI q))]) dX12_explains_1 rfl (by decide) rfl ?_
  refine g_iconst C (nI 0) dX12_explains_2 (by decide) ?_
  refine g_istore C (lv' := [(4, .int (nI 0)), (3, .int (nI 0)), (0, .ref m0), (1, .int (nI p)), (2, .int (nI q))]) dX12_explains_3 (by decide) rfl ?_
  have L5 : ∀ (zz k : Nat) (a : Int32), k + zz = 7 + 1 → k ≤ 7 → (a = tiOn f q (T.2.2.1 p) k) → G K 0 0 5 [(0, .ref m0), (1, .int (nI p)), (2, .int (nI q)), (3, .int a), (4, .int (nI k))] [] [(m0, oB 12 [.ref x0, .int (nI n), .int (nI Q.1), .int (nI Q.2.2.1), .int Q.2.1, .int Q.2.2.2, .ref x1, .ref x2, .ref x3, .ref x4, .int (nI und), .ref x5, .ref x6, .int (nI nt), .ref x7, .ref x8, .long tr, .ref x9]), (x2, iA E 21 (papO T)), (x3, iA E 50 (nowO f))] := by
    intro zz
    induction zz with
    | zero => intro k a hL5 gL5; exfalso; omega
    | succ zz ihL5 =>
      intro k a hL5 gL5 ha
      refine g_iload C dX12_explains_5 4 rfl ?_
      refine g_bipush C (nI 7) dX12_explains_7 (by decide) ?_
      refine g_icmp_geN C 46 dX12_explains_9 (by decide) (by omega) (by omega) (fun cq1 => ?_) (fun cq1 => ?_)
      · have hk : k = 7 := by omega
        refine g_iload_n C dX12_explains_46 rfl 3 rfl ?_
        exact g_iret C X dX12_explains_47 (⟨by rw [ha, hk], rfl⟩)
      · refine g_iload_n C dX12_explains_12 rfl 3 rfl ?_
        refine g_aload_n C dX12_explains_13 rfl 0 rfl ?_
        refine g_iload_n C dX12_explains_14 rfl 1 rfl ?_
        refine g_callV C (rest := [.int a]) (n := 1) (kX12_knows l E m0 x0 x1 x2 x3 x4 x5 x6 x7 x8 x9 n und nt tr Q T p (by omega) (by omega)) gX12_explains_X12_knows rfl ⟨rfl, rfl⟩ (by decide) (Nat.le_of_ble_eq_true rfl) rfl (by decide +kernel) rfl dX12_explains_15 0 rfl rfl [0, 1] [2] rfl rfl ?_
        refine g_is1 (ws2 := [(m0, oB 12 [.ref x0, .int (nI n), .int (nI Q.1), .int (nI Q.2.2.1), .int Q.2.1, .int Q.2.2.2, .ref x1, .ref x2, .ref x3, .ref x4, .int (nI und), .ref x5, .ref x6, .int (nI nt), .ref x7, .ref x8, .long tr, .ref x9]), (x2, iA E 21 (papO T)), (x3, iA E 50 (nowO f))]) (st2 := [.int (T.2.2.1 p), .int a]) [1, 2, 0] rfl rfl rfl ?_
        refine g_iload C dX12_explains_18 4 rfl ?_
        refine g_ishr C dX12_explains_20 ?_
        refine g_iconst C (nI 1) dX12_explains_21 (by decide) ?_
        refine g_iand C dX12_explains_22 ?_
        refine g_iconst C (nI 1) dX12_explains_23 (by decide) ?_
        refine g_icmp_ne C 37 dX12_explains_24 (by decide) (fun cq2 => ?_) (fun cq2 => ?_)
        · refine g_iconst C (nI 0) dX12_explains_37 (by decide) ?_
          refine g_iadd C dX12_explains_38 ?_
          refine g_istore_n C (lv' := [(3, .int (a + (nI 0))), (0, .ref m0), (1, .int (nI p)), (2, .int (nI q)), (4, .int (nI k))]) dX12_explains_39 rfl (by decide) rfl ?_
          refine g_iincN C (lv' := [(4, .int (nI (k + 1))), (3, .int (a + (nI 0))), (0, .ref m0), (1, .int (nI p)), (2, .int (nI q))]) dX12_explains_40 4 rfl (by decide) rfl ?_
          refine g_goto C 5 dX12_explains_43 (by decide) ?_
          refine g_sub (lv' := [(0, .ref m0), (1, .int (nI p)), (2, .int (nI q)), (3, .int (a + (nI 0))), (4, .int (nI (k + 1)))]) [2, 3, 4, 1, 0] rfl ?_
          exact ihL5 (k + 1) (a + (nI 0)) (by omega) (by omega) (by rw [tiOn, ← ha]; first | (rw [if_pos (tb_n1 cq2), addz]; done) | (rw [if_neg (tb_1 cq2)]; done))
        · refine g_aload_n C dX12_explains_27 rfl 0 rfl ?_
          refine g_iload_n C dX12_explains_28 rfl 2 rfl ?_
          refine g_iload C dX12_explains_29 4 rfl ?_
          refine g_callV C (rest := [.int a]) (n := 2) (kX12_often l E m0 x0 x1 x2 x3 x4 x5 x6 x7 x8 x9 n und nt tr Q f q k (by omega) (by omega)) gX12_explains_X12_often rfl ⟨rfl, rfl⟩ (by decide) (Nat.le_of_ble_eq_true rfl) rfl (by decide +kernel) rfl dX12_explains_31 0 rfl rfl [0, 2] [1] rfl rfl ?_
          refine g_is1 (ws2 := [(m0, oB 12 [.ref x0, .int (nI n), .int (nI Q.1), .int (nI Q.2.2.1), .int Q.2.1, .int Q.2.2.2, .ref x1, .ref x2, .ref x3, .ref x4, .int (nI und), .ref x5, .ref x6, .int (nI nt), .ref x7, .ref x8, .long tr, .ref x9]), (x2, iA E 21 (papO T)), (x3, iA E 50 (nowO f))]) (st2 := [.int (f (q * 7 + k)), .int a]) [1, 0, 2] rfl rfl rfl ?_
          refine g_goto C 38 dX12_explains_34 (by decide) ?_
          refine g_iadd C dX12_explains_38 ?_
          refine g_istore_n C (lv' := [(3, .int (a + (f (q * 7 + k)))), (0, .ref m0), (1, .int (nI p)), (2, .int (nI q)), (4, .int (nI k))]) dX12_explains_39 rfl (by decide) rfl ?_
          refine g_iincN C (lv' := [(4, .int (nI (k + 1))), (3, .int (a + (f (q * 7 + k)))), (0, .ref m0), (1, .int (nI p)), (2, .int (nI q))]) dX12_explains_40 4 rfl (by decide) rfl ?_
          refine g_goto C 5 dX12_explains_43 (by decide) ?_
          refine g_sub (lv' := [(0, .ref m0), (1, .int (nI p)), (2, .int (nI q)), (3, .int (a + (f (q * 7 + k)))), (4, .int (nI (k + 1)))]) [2, 3, 4, 1, 0] rfl ?_
          exact ihL5 (k + 1) (a + (f (q * 7 + k))) (by omega) (by omega) (by rw [tiOn, ← ha]; first | (rw [if_pos (tb_n1 cq2), addz]; done) | (rw [if_neg (tb_1 cq2)]; done))
  refine g_sub (lv' := [(0, .ref m0), (1, .int (nI p)), (2, .int (nI q)), (3, .int (nI 0)), (4, .int (nI 0))]) [2, 3, 4, 1, 0] rfl ?_
  exact L5 (7 + 1 - 0) 0 (nI 0) (by omega) (by omega) (by first | rfl | omega | (simp []; done))

set_option maxHeartbeats 4000000 in
set_option maxRecDepth 100000 in
theorem kX12_whose (l : Launch) (E : EX) (m0 x0 x1 x2 x3 x4 x5 x6 x7 x8 x9 n und nt : Nat) (tr : Int64) (Q : RS) (T : TS) (f : Nat → Int32) (q what : Int32) (hn : T.1 ≤ 6) (hm : T.2.1 ≤ 6) : M l E yX12_whose wsX12_whose { frames := 2, cells := 0, slots := 0, locals := 46 } 0 0 [.ref m0, .int q, .int what] [(m0, oB 12 [.ref x0, .int (nI n), .int (nI Q.1), .int (nI Q.2.2.1), .int Q.2.1, .int Q.2.2.2, .ref x1, .ref x2, .ref x3, .ref x4, .int (nI und), .ref x5, .ref x6, .int (nI nt), .ref x7, .ref x8, .long tr, .ref x9]), (x2, iA E 21 (papO T)), (x3, iA E 50 (nowO f))] (is1 (some (.int (whoS T f q what))) [(m0, oB 12 [.ref x0, .int (nI n), .int (nI Q.1), .int (nI Q.2.2.1), .int Q.2.1, .int Q.2.2.2, .ref x1, .ref x2, .ref x3, .ref x4, .int (nI und), .ref x5, .ref x6, .int (nI nt), .ref x7, .ref x8, .long tr, .ref x9]), (x2, iA E 21 (papO T)), (x3, iA E 50 (nowO f))]) := by
  refine M.ofG (cc := cX12_whose) (maxL := 9) (ret := (some .int)) (lv := [(0, .ref m0), (1, .int q), (2, .int what)]) (own := RX12) (by decide) rfl rfl (Nat.le_of_ble_eq_true rfl) rfl ?_
  intro K C X _
  have i12 : ∀ w ∈ wsX120, w ∈ wsX12_whose := by decide +kernel
  refine g_aload_n C dX12_whose_0 rfl 0 rfl ?_
  refine g_iload_n C dX12_whose_1 rfl 1 rfl ?_
  refine g_callV C (rest := []) (n := 1) (kX12_isPillow l E m0 x0 x1 x2 x3 x4 x5 x6 x7 x8 x9 n und nt tr Q T q (by omega)) gX12_whose_X12_isPillow rfl ⟨rfl, rfl⟩ (by decide) (Nat.le_of_ble_eq_true rfl) rfl (by decide +kernel) rfl dX12_whose_2 0 rfl rfl [0, 1] [2] rfl rfl ?_
  refine g_is1 (ws2 := [(m0, oB 12 [.ref x0, .int (nI n), .int (nI Q.1), .int (nI Q.2.2.1), .int Q.2.1, .int Q.2.2.2, .ref x1, .ref x2, .ref x3, .ref x4, .int (nI und), .ref x5, .ref x6, .int (nI nt), .ref x7, .ref x8, .long tr, .ref x9]), (x2, iA E 21 (papO T)), (x3, iA E 50 (nowO f))]) (st2 := [.int (bI (inR q T.2.1))]) [1, 2, 0] rfl rfl rfl ?_
  refine g_if_eqB C 18 dX12_whose_5 (by decide) (fun cq1 => ?_) (fun cq1 => ?_)
  · refine g_iconst C ((-1)) dX12_whose_18 (by decide) ?_
    exact g_iret C X dX12_whose_19 (⟨by unfold whoS; first | (rw [if_pos cq1, if_neg trivial]; done) | (rw [if_neg cq1]; done), rfl⟩)
  · refine g_iload_n C dX12_whose_8 rfl 2 rfl ?_
    refine g_i2l C dX12_whose_9 ?_
    refine g_lconst C 0 dX12_whose_10 rfl ?_
    refine g_lconst C 1 dX12_whose_11 rfl ?_
    refine g_callS C (rest := []) (n := 3) (kX12_in_zo l E what ) gX12_whose_X12_in rfl ⟨rfl, rfl⟩ (by decide) (Nat.le_of_ble_eq_true rfl) rfl (by decide +kernel) rfl dX12_whose_12 [] [0, 1, 2] rfl rfl ?_
    refine g_is1 (ws2 := [(m0, oB 12 [.ref x0, .int (nI n), .int (nI Q.1), .int (nI Q.2.2.1), .int Q.2.1, .int Q.2.2.2, .ref x1, .ref x2, .ref x3, .ref x4, .int (nI und), .ref x5, .ref x6, .int (nI nt), .ref x7, .ref x8, .long tr, .ref x9]), (x2, iA E 21 (papO T)), (x3, iA E 50 (nowO f))]) (st2 := [.int (bI (zo what))]) [0, 1, 2] rfl rfl rfl ?_
    refine g_if_neB C 20 dX12_whose_15 (by decide) (fun cq2 => ?_) (fun cq2 => ?_)
    · have h64 : 2 ^ T.1 ≤ 64 := p2_64 hn
      obtain ⟨j, hj_j, rfl⟩ := inR_of (n := T.2.1) (by omega) cq1
      have hcl_j : (nI j).toNatClampNeg = j := nI_clamp (by omega)
      refine g_aload_n C dX12_whose_20 rfl 0 rfl ?_
      refine g_iload_n C dX12_whose_21 rfl 1 rfl ?_
      refine g_callV C (rest := []) (n := 1) (kX12_hears l E m0 x0 x1 x2 x3 x4 x5 x6 x7 x8 x9 n und nt tr Q f j (by omega)) gX12_whose_X12_hears rfl ⟨rfl, rfl⟩ (by decide) (Nat.le_of_ble_eq_true rfl) rfl (by decide +kernel) rfl dX12_whose_22 0 rfl rfl [0, 2] [1] rfl rfl ?_
      refine g_is1 (ws2 := [(m0, oB 12 [.ref x0, .int (nI n), .int (nI Q.1), .int (nI Q.2.2.1), .int Q.2.1, .int Q.2.2.2, .ref x1, .ref x2, .ref x3, .ref x4, .int (nI und), .ref x5, .ref x6, .int (nI nt), .ref x7, .ref x8, .long tr, .ref x9]), (x2, iA E 21 (papO T)), (x3, iA E 50 (nowO f))]) (st2 := [.int (thOn f j 7)]) [1, 0, 2] rfl rfl rfl ?_
      refine g_istore_n C (lv' := [(3, .int (thOn f j 7)), (0, .ref m0), (1, .int (nI j)), (2, .int what)]) dX12_whose_25 rfl (by decide) rfl ?_
      refine g_iconst C (nI 0) dX12_whose_26 (by decide) ?_
      refine g_istore C (lv' := [(4, .int (nI 0)), (3, .int (thOn f j 7)), (0, .ref m0), (1, .int (nI j)), (2, .int what)]) dX12_whose_27 (by decide) rfl ?_
      refine g_bipush C ((-9)) dX12_whose_29 (by decide) ?_
      refine g_istore C (lv' := [(5, .int (-9)), (4, .int (nI 0)), (3, .int (thOn f j 7)), (0, .ref m0), (1, .int (nI j)), (2, .int what)]) dX12_whose_31 (by decide) rfl ?_
      refine g_iconst C (nI 0) dX12_whose_33 (by decide) ?_
      refine g_istore C (lv' := [(6, .int (nI 0)), (5, .int (-9)), (4, .int (nI 0)), (3, .int (thOn f j 7)), (0, .ref m0), (1, .int (nI j)), (2, .int what)]) dX12_whose_34 (by decide) rfl ?_
      have L36 : ∀ (zz k : Nat) (d : Nat) (a : Int32), k + zz = (2 ^ T.1) + 1 → k ≤ 2 ^ T.1 → (d = (whS T.2.2.1 f T.1 j k).1) → (a = (whS T.2.2.1 f T.1 j k).2) → (d ≤ k) → (a = (-9) ∨ s7 a) → G K 0 0 36 [(0, .ref m0), (1, .int (nI j)), (2, .int what), (3, .int (thOn f j 7)), (4, .int (nI d)), (5, .int a), (6, .int (nI k))] [] [(m0, oB 12 [.ref x0, .int (nI n), .int (nI Q.1), .int (nI Q.2.2.1), .int Q.2.1, .int Q.2.2.2, .ref x1, .ref x2, .ref x3, .ref x4, .int (nI und), .ref x5, .ref x6, .int (nI nt), .ref x7, .ref x8, .long tr, .ref x9]), (x2, iA E 21 (papO T)), (x3, iA E 50 (nowO f))] := by
        intro zz
        induction zz with
        | zero => intro k d a hL36 gL36; exfalso; omega
        | succ zz ihL36 =>
          intro k d a hL36 gL36 hd ha hdk hs
          refine g_iload C dX12_whose_36 6 rfl ?_
          refine g_iconst C (nI 1) dX12_whose_38 (by decide) ?_
          refine g_aload_n C dX12_whose_39 rfl 0 rfl ?_
          refine g_get C i12 0 rfl rfl 7 (by decide) (List.mem_of_getElem? (i := 1) rfl) rfl rfl dX12_whose_40 ?_
          refine g_iconst C (nI 0) dX12_whose_43 (by decide) ?_
          refine g_iald C 1 rfl (by omega) (by decide) dX12_whose_44 ?_
          refine g_as (papO_0 _) ?_
          refine g_ishl1 C dX12_whose_45 (by omega) ?_
          refine g_icmp_geN C 145 dX12_whose_46 (by decide) (by omega) (by omega) (fun cq3 => ?_) (fun cq3 => ?_)
          · have hk : k = 2 ^ T.1 := by omega
            refine g_iload_n C dX12_whose_145 rfl 2 rfl ?_
            refine g_if_ne C 154 dX12_whose_146 (by decide) (fun cq4 => ?_) (fun cq4 => ?_)
            · refine g_iload C dX12_whose_154 5 rfl ?_
              exact g_iret C X dX12_whose_156 (⟨by unfold whoS; rw [if_pos cq1, if_pos cq2, hcl_j, ← hk, ← hd, ← ha]; first | (rw [if_neg cq4]; done) | (rw [if_pos cq4]; done), rfl⟩)
            · refine g_iload C dX12_whose_149 4 rfl ?_
              refine g_goto C 156 dX12_whose_151 (by decide) ?_
              exact g_iret C X dX12_whose_156 (⟨by unfold whoS; rw [if_pos cq1, if_pos cq2, hcl_j, ← hk, ← hd, ← ha]; first | (rw [if_neg cq4]; done) | (rw [if_pos cq4]; done), rfl⟩)
          · refine g_iconst C (nI 0) dX12_whose_49 (by decide) ?_
            refine g_istore C (lv' := [(7, .int (nI 0)), (0, .ref m0), (1, .int (nI j)), (2, .int what), (3, .int (thOn f j 7)), (4, .int (nI d)), (5, .int a), (6, .int (nI k))]) dX12_whose_50 (by decide) rfl ?_
            refine g_iconst C (nI 0) dX12_whose_52 (by decide) ?_
            refine g_istore C (lv' := [(8, .int (nI 0)), (7, .int (nI 0)), (0, .ref m0), (1, .int (nI j)), (2, .int what), (3, .int (thOn f j 7)), (4, .int (nI d)), (5, .int a), (6, .int (nI k))]) dX12_whose_53 (by decide) rfl ?_
            have L55 : ∀ (zz k2 : Nat) (e : Int32), k2 + zz = T.1 + 1 → k2 ≤ T.1 → (e = knT T.2.2.1 (nI k) k2) → G K 0 0 55 [(0, .ref m0), (1, .int (nI j)), (2, .int what), (3, .int (thOn f j 7)), (4, .int (nI d)), (5, .int a), (6, .int (nI k)), (7, .int e), (8, .int (nI k2))] [] [(m0, oB 12 [.ref x0, .int (nI n), .int (nI Q.1), .int (nI Q.2.2.1), .int Q.2.1, .int Q.2.2.2, .ref x1, .ref x2, .ref x3, .ref x4, .int (nI und), .ref x5, .ref x6, .int (nI nt), .ref x7, .ref x8, .long tr, .ref x9]), (x2, iA E 21 (papO T)), (x3, iA E 50 (nowO f))] := by
              intro zz
              induction zz with
              | zero => intro k2 e hL55 gL55; exfalso; omega
              | succ zz ihL55 =>
                intro k2 e hL55 gL55 he
                refine g_iload C dX12_whose_55 8 rfl ?_
                refine g_aload_n C dX12_whose_57 rfl 0 rfl ?_
                refine g_get C i12 0 rfl rfl 7 (by decide) (List.mem_of_getElem? (i := 1) rfl) rfl rfl dX12_whose_58 ?_
                refine g_iconst C (nI 0) dX12_whose_61 (by decide) ?_
                refine g_iald C 1 rfl (by omega) (by decide) dX12_whose_62 ?_
                refine g_as (papO_0 _) ?_
                refine g_icmp_geN C 98 dX12_whose_63 (by decide) (by omega) (by omega) (fun cq5 => ?_) (fun cq5 => ?_)
                · have hk2 : e = knT T.2.2.1 (nI k) T.1 := by rw [he, show k2 = T.1 by omega]
                  refine g_iload_n C dX12_whose_98 rfl 3 rfl ?_
                  refine g_iload C dX12_whose_99 7 rfl ?_
                  refine g_iconst C ((-1)) dX12_whose_101 (by decide) ?_
                  refine g_ixor C dX12_whose_102 ?_
                  refine g_iand C dX12_whose_103 ?_
                  refine g_if_ne C 139 dX12_whose_104 (by decide) (fun cq6 => ?_) (fun cq6 => ?_)
                  · have hz9 : ¬ thOn f j 7 &&& (knT T.2.2.1 (nI k) T.1 ^^^ (-1)) = 0 := by rw [← hk2]; exact cq6
                    refine g_iincN C (lv' := [(6, .int (nI (k + 1))), (0, .ref m0), (1, .int (nI j)), (2, .int what), (3, .int (thOn f j 7)), (4, .int (nI d)), (5, .int a), (7, .int e), (8, .int (nI k2))]) dX12_whose_139 6 rfl (by decide) rfl ?_
                    refine g_goto C 36 dX12_whose_142 (by decide) ?_
                    refine g_sub (lv' := [(0, .ref m0), (1, .int (nI j)), (2, .int what), (3, .int (thOn f j 7)), (4, .int (nI d)), (5, .int a), (6, .int (nI (k + 1)))]) [1, 2, 3, 4, 5, 6, 0] rfl ?_
                    exact ihL36 (k + 1) d a (by omega) (by omega) (by rw [whS]; first | (rw [if_neg hz9, ← hd]; done) | (rw [if_pos hz9, ← hd]; done)) (by rw [whS]; first | (rw [if_neg hz9, ← ha]; done) | (rw [if_pos hz9, ← ha, fewS]; first | (rw [if_pos cq6]; done) | (rw [if_neg cq5, if_pos cq6]; done) | (rw [if_neg cq5, if_neg cq6]; done))) (by first | omega | (simp [cq1, cq2, h64, hcl_j, hd, ha, hdk, hs, cq3, he, cq5, hk2, cq6, hz9]; done)) (by first | exact hs | exact Or.inr (s7_nI (by omega)))
                  · have hz9 : thOn f j 7 &&& (knT T.2.2.1 (nI k) T.1 ^^^ (-1)) = 0 := by rw [← hk2]; exact cq6
                    refine g_iincN C (lv' := [(4, .int (nI (d + 1))), (0, .ref m0), (1, .int (nI j)), (2, .int what), (3, .int (thOn f j 7)), (5, .int a), (6, .int (nI k)), (7, .int e), (8, .int (nI k2))]) dX12_whose_107 4 rfl (by decide) rfl ?_
                    refine g_iload C dX12_whose_110 5 rfl ?_
                    refine g_bipush C ((-9)) dX12_whose_112 (by decide) ?_
                    refine g_icmp_eq C 130 dX12_whose_114 (by decide) (fun cq7 => ?_) (fun cq7 => ?_)
                    · refine g_iload C dX12_whose_130 6 rfl ?_
                      refine g_goto C 137 dX12_whose_132 (by decide) ?_
                      refine g_istore C (lv' := [(5, .int (nI k)), (4, .int (nI (d + 1))), (0, .ref m0), (1, .int (nI j)), (2, .int what), (3, .int (thOn f j 7)), (6, .int (nI k)), (7, .int e), (8, .int (nI k2))]) dX12_whose_137 (by decide) rfl ?_
                      refine g_iincN C (lv' := [(6, .int (nI (k + 1))), (5, .int (nI k)), (4, .int (nI (d + 1))), (0, .ref m0), (1, .int (nI j)), (2, .int what), (3, .int (thOn f j 7)), (7, .int e), (8, .int (nI k2))]) dX12_whose_139 6 rfl (by decide) rfl ?_
                      refine g_goto C 36 dX12_whose_142 (by decide) ?_
                      refine g_sub (lv' := [(0, .ref m0), (1, .int (nI j)), (2, .int what), (3, .int (thOn f j 7)), (4, .int (nI (d + 1))), (5, .int (nI k)), (6, .int (nI (k + 1)))]) [3, 4, 5, 6, 2, 1, 0] rfl ?_
                      exact ihL36 (k + 1) (d + 1) (nI k) (by omega) (by omega) (by rw [whS]; first | (rw [if_neg hz9, ← hd]; done) | (rw [if_pos hz9, ← hd]; done)) (by rw [whS]; first | (rw [if_neg hz9, ← ha]; done) | (rw [if_pos hz9, ← ha, fewS]; first | (rw [if_pos cq7]; done) | (rw [if_neg cq6, if_pos cq7]; done) | (rw [if_neg cq6, if_neg cq7]; done))) (by first | omega | (simp [cq1, cq2, h64, hcl_j, hd, ha, hdk, hs, cq3, he, cq5, hk2, cq6, hz9, cq7]; done)) (by first | exact hs | exact Or.inr (s7_nI (by omega)))
                    · refine g_iload C dX12_whose_117 6 rfl ?_
                      refine g_callS C (rest := []) (n := 1) (kX12_many l E (nI k) (s7_nI (by omega))) gX12_whose_X12_many rfl ⟨rfl, rfl⟩ (by decide) (Nat.le_of_ble_eq_true rfl) rfl (by decide +kernel) rfl dX12_whose_119 [] [0, 1, 2] rfl rfl ?_
                      refine g_is1 (ws2 := [(m0, oB 12 [.ref x0, .int (nI n), .int (nI Q.1), .int (nI Q.2.2.1), .int Q.2.1, .int Q.2.2.2, .ref x1, .ref x2, .ref x3, .ref x4, .int (nI und), .ref x5, .ref x6, .int (nI nt), .ref x7, .ref x8, .long tr, .ref x9]), (x2, iA E 21 (papO T)), (x3, iA E 50 (nowO f))]) (st2 := [.int (bc (nI k))]) [0, 1, 2] rfl rfl rfl ?_
                      refine g_iload C dX12_whose_122 5 rfl ?_
                      refine g_callS C (rest := [.int (bc (nI k))]) (n := 1) (kX12_many l E a (hs.resolve_left cq7)) gX12_whose_X12_many rfl ⟨rfl, rfl⟩ (by decide) (Nat.le_of_ble_eq_true rfl) rfl (by decide +kernel) rfl dX12_whose_124 [] [0, 1, 2] rfl rfl ?_
                      refine g_is1 (ws2 := [(m0, oB 12 [.ref x0, .int (nI n), .int (nI Q.1), .int (nI Q.2.2.1), .int Q.2.1, .int Q.2.2.2, .ref x1, .ref x2, .ref x3, .ref x4, .int (nI und), .ref x5, .ref x6, .int (nI nt), .ref x7, .ref x8, .long tr, .ref x9]), (x2, iA E 21 (papO T)), (x3, iA E 50 (nowO f))]) (st2 := [.int (bc a), .int (bc (nI k))]) [0, 1, 2] rfl rfl rfl ?_
                      refine g_icmp_ge C 135 dX12_whose_127 (by decide) (fun cq8 => ?_) (fun cq8 => ?_)
                      · refine g_iload C dX12_whose_135 5 rfl ?_
                        refine g_istore C (lv' := [(5, .int a), (4, .int (nI (d + 1))), (0, .ref m0), (1, .int (nI j)), (2, .int what), (3, .int (thOn f j 7)), (6, .int (nI k)), (7, .int e), (8, .int (nI k2))]) dX12_whose_137 (by decide) rfl ?_
                        refine g_iincN C (lv' := [(6, .int (nI (k + 1))), (5, .int a), (4, .int (nI (d + 1))), (0, .ref m0), (1, .int (nI j)), (2, .int what), (3, .int (thOn f j 7)), (7, .int e), (8, .int (nI k2))]) dX12_whose_139 6 rfl (by decide) rfl ?_
                        refine g_goto C 36 dX12_whose_142 (by decide) ?_
                        refine g_sub (lv' := [(0, .ref m0), (1, .int (nI j)), (2, .int what), (3, .int (thOn f j 7)), (4, .int (nI (d + 1))), (5, .int a), (6, .int (nI (k + 1)))]) [3, 4, 5, 6, 2, 1, 0] rfl ?_
                        exact ihL36 (k + 1) (d + 1) a (by omega) (by omega) (by rw [whS]; first | (rw [if_neg hz9, ← hd]; done) | (rw [if_pos hz9, ← hd]; done)) (by rw [whS]; first | (rw [if_neg hz9, ← ha]; done) | (rw [if_pos hz9, ← ha, fewS]; first | (rw [if_pos cq8]; done) | (rw [if_neg cq7, if_pos cq8]; done) | (rw [if_neg cq7, if_neg cq8]; done))) (by first | omega | (simp [cq1, cq2, h64, hcl_j, hd, ha, hdk, hs, cq3, he, cq5, hk2, cq6, hz9, cq7, cq8]; done)) (by first | exact hs | exact Or.inr (s7_nI (by omega)))
                      · refine g_iload C dX12_whose_130 6 rfl ?_
                        refine g_goto C 137 dX12_whose_132 (by decide) ?_
                        refine g_istore C (lv' := [(5, .int (nI k)), (4, .int (nI (d + 1))), (0, .ref m0), (1, .int (nI j)), (2, .int what), (3, .int (thOn f j 7)), (6, .int (nI k)), (7, .int e), (8, .int (nI k2))]) dX12_whose_137 (by decide) rfl ?_
                        refine g_iincN C (lv' := [(6, .int (nI (k + 1))), (5, .int (nI k)), (4, .int (nI (d + 1))), (0, .ref m0), (1, .int (nI j)), (2, .int what), (3, .int (thOn f j 7)), (7, .int e), (8, .int (nI k2))]) dX12_whose_139 6 rfl (by decide) rfl ?_
                        refine g_goto C 36 dX12_whose_142 (by decide) ?_
                        refine g_sub (lv' := [(0, .ref m0), (1, .int (nI j)), (2, .int what), (3, .int (thOn f j 7)), (4, .int (nI (d + 1))), (5, .int (nI k)), (6, .int (nI (k + 1)))]) [3, 4, 5, 6, 2, 1, 0] rfl ?_
                        exact ihL36 (k + 1) (d + 1) (nI k) (by omega) (by omega) (by rw [whS]; first | (rw [if_neg hz9, ← hd]; done) | (rw [if_pos hz9, ← hd]; done)) (by rw [whS]; first | (rw [if_neg hz9, ← ha]; done) | (rw [if_pos hz9, ← ha, fewS]; first | (rw [if_pos cq8]; done) | (rw [if_neg cq7, if_pos cq8]; done) | (rw [if_neg cq7, if_neg cq8]; done))) (by first | omega | (simp [cq1, cq2, h64, hcl_j, hd, ha, hdk, hs, cq3, he, cq5, hk2, cq6, hz9, cq7, cq8]; done)) (by first | exact hs | exact Or.inr (s7_nI (by omega)))
                · refine g_iload C dX12_whose_66 7 rfl ?_
                  refine g_iload C dX12_whose_68 6 rfl ?_
                  refine g_iload C dX12_whose_70 8 rfl ?_
                  refine g_ishr C dX12_whose_72 ?_
                  refine g_iconst C (nI 1) dX12_whose_73 (by decide) ?_
                  refine g_iand C dX12_whose_74 ?_
                  refine g_iconst C (nI 1) dX12_whose_75 (by decide) ?_
                  refine g_icmp_ne C 88 dX12_whose_76 (by decide) (fun cq9 => ?_) (fun cq9 => ?_)
                  · refine g_iconst C (nI 0) dX12_whose_88 (by decide) ?_
                    refine g_ior C dX12_whose_89 ?_
                    refine g_istore C (lv' := [(7, .int (e ||| (nI 0))), (0, .ref m0), (1, .int (nI j)), (2, .int what), (3, .int (thOn f j 7)), (4, .int (nI d)), (5, .int a), (6, .int (nI k)), (8, .int (nI k2))]) dX12_whose_90 (by decide) rfl ?_
                    refine g_iincN C (lv' := [(8, .int (nI (k2 + 1))), (7, .int (e ||| (nI 0))), (0, .ref m0), (1, .int (nI j)), (2, .int what), (3, .int (thOn f j 7)), (4, .int (nI d)), (5, .int a), (6, .int (nI k))]) dX12_whose_92 8 rfl (by decide) rfl ?_
                    refine g_goto C 55 dX12_whose_95 (by decide) ?_
                    refine g_sub (lv' := [(0, .ref m0), (1, .int (nI j)), (2, .int what), (3, .int (thOn f j 7)), (4, .int (nI d)), (5, .int a), (6, .int (nI k)), (7, .int (e ||| (nI 0))), (8, .int (nI (k2 + 1)))]) [2, 3, 4, 5, 6, 7, 8, 1, 0] rfl ?_
                    exact ihL55 (k2 + 1) (e ||| (nI 0)) (by omega) (by omega) (by rw [knT, ← he]; first | (rw [if_pos (tb_n1 cq9), orz]; done) | (rw [if_neg (tb_1 cq9)]; done))
                  · refine g_aload_n C dX12_whose_79 rfl 0 rfl ?_
                    refine g_iload C dX12_whose_80 8 rfl ?_
                    refine g_callV C (rest := [.int e]) (n := 1) (kX12_knows l E m0 x0 x1 x2 x3 x4 x5 x6 x7 x8 x9 n und nt tr Q T k2 (by omega) (by omega)) gX12_whose_X12_knows rfl ⟨rfl, rfl⟩ (by decide) (Nat.le_of_ble_eq_true rfl) rfl (by decide +kernel) rfl dX12_whose_82 0 rfl rfl [0, 1] [2] rfl rfl ?_
                    refine g_is1 (ws2 := [(m0, oB 12 [.ref x0, .int (nI n), .int (nI Q.1), .int (nI Q.2.2.1), .int Q.2.1, .int Q.2.2.2, .ref x1, .ref x2, .ref x3, .ref x4, .int (nI und), .ref x5, .ref x6, .int (nI nt), .ref x7, .ref x8, .long tr, .ref x9]), (x2, iA E 21 (papO T)), (x3, iA E 50 (nowO f))]) (st2 := [.int (T.2.2.1 k2), .int e]) [1, 2, 0] rfl rfl rfl ?_
                    refine g_goto C 89 dX12_whose_85 (by decide) ?_
                    refine g_ior C dX12_whose_89 ?_
                    refine g_istore C (lv' := [(7, .int (e ||| (T.2.2.1 k2))), (0, .ref m0), (1, .int (nI j)), (2, .int what), (3, .int (thOn f j 7)), (4, .int (nI d)), (5, .int a), (6, .int (nI k)), (8, .int (nI k2))]) dX12_whose_90 (by decide) rfl ?_
                    refine g_iincN C (lv' := [(8, .int (nI (k2 + 1))), (7, .int (e ||| (T.2.2.1 k2))), (0, .ref m0), (1, .int (nI j)), (2, .int what), (3, .int (thOn f j 7)), (4, .int (nI d)), (5, .int a), (6, .int (nI k))]) dX12_whose_92 8 rfl (by decide) rfl ?_
                    refine g_goto C 55 dX12_whose_95 (by decide) ?_
                    refine g_sub (lv' := [(0, .ref m0), (1, .int (nI j)), (2, .int what), (3, .int (thOn f j 7)), (4, .int (nI d)), (5, .int a), (6, .int (nI k)), (7, .int (e ||| (T.2.2.1 k2))), (8, .int (nI (k2 + 1)))]) [2, 3, 4, 5, 6, 7, 8, 1, 0] rfl ?_
                    exact ihL55 (k2 + 1) (e ||| (T.2.2.1 k2)) (by omega) (by omega) (by rw [knT, ← he]; first | (rw [if_pos (tb_n1 cq9), orz]; done) | (rw [if_neg (tb_1 cq9)]; done))
            refine g_sub (lv' := [(0, .ref m0), (1, .int (nI j)), (2, .int what), (3, .int (thOn f j 7)), (4, .int (nI d)), (5, .int a), (6, .int (nI k)), (7, .int (nI 0)), (8, .int (nI 0))]) [2, 3, 4, 5, 6, 7, 8, 1, 0] rfl ?_
            exact L55 (T.1 + 1 - 0) 0 (nI 0) (by omega) (by omega) (by first | rfl | omega | (simp []; done))
      have h1p : 1 ≤ 2 ^ T.1 := Nat.one_le_two_pow
      refine g_sub (lv' := [(0, .ref m0), (1, .int (nI j)), (2, .int what), (3, .int (thOn f j 7)), (4, .int (nI 0)), (5, .int (-9)), (6, .int (nI 0))]) [4, 5, 6, 3, 2, 1, 0] rfl ?_
      exact L36 ((2 ^ T.1) + 1 - 0) 0 0 (-9) (by omega) (by omega) (rfl) (rfl) (Nat.le_refl 0) (Or.inl rfl)
    · refine g_iconst C ((-1)) dX12_whose_18 (by decide) ?_
      exact g_iret C X dX12_whose_19 (⟨by unfold whoS; first | (rw [if_pos cq1, if_neg cq2]; done) | (rw [if_neg cq1]; done), rfl⟩)
