/-! the reference: what each call asks; the invariants of told and scene -/
abbrev s7 (x : Int32) : Prop := ∃ s, s < 128 ∧ x = nI s
def TI (T : TS) : Prop := T.1 ≤ 6 ∧ 1 ≤ T.2.1 ∧ T.2.1 ≤ 6 ∧ (∀ p, p < T.1 → s7 (T.2.2.1 p)) ∧ (∀ p, p < T.1 → ∃ t, t ≤ 10 ∧ T.2.2.2.1 p = nI t) ∧ (∀ t, t < 7 → s7 (T.2.2.2.2 t)) ∧ (∀ a b, a < 7 → b < 7 → tb (T.2.2.2.2 a) b = tb (T.2.2.2.2 b) a) ∧ (∀ a, a < 7 → tb (T.2.2.2.2 a) a = 0)
def SI (T : TS) (f : Nat → Int32) : Prop := (∀ k, k < 42 → ∃ j, j ≤ 99 ∧ f k = nI j) ∧ (∀ q t, T.2.1 ≤ q → q < 6 → t < 7 → f (q * 7 + t) = nI 0) ∧ (∀ p, p < 6 → f (42 + p) = (-9) ∨ (p < T.1 ∧ ∃ q, q < T.2.1 ∧ f (42 + p) = nI q)) ∧ (∃ e, e < 2 ^ T.2.1 ∧ f 48 = nI e) ∧ (∃ n, n ≤ 999 ∧ f 49 = nI n)
theorem orI (a b : Nat) : nI a ||| nI b = nI (a ||| b) := by rw [← Int32.toBitVec_inj]; simp [nI, BitVec.ofNat_or]
theorem andI (a b : Nat) : nI a &&& nI b = nI (a &&& b) := by rw [← Int32.toBitVec_inj]; simp [nI, BitVec.ofNat_and]
theorem xorI (a b : Nat) : nI a ^^^ nI b = nI (a ^^^ b) := by rw [← Int32.toBitVec_inj]; simp [nI, BitVec.ofNat_xor]
theorem orz (x : Int32) : x ||| nI 0 = x := by rw [← Int32.toBitVec_inj]; simp [nI]
theorem addz (x : Int32) : x + nI 0 = x := by rw [← Int32.toBitVec_inj]; simp [nI]
theorem tb01 (x : Int32) (k : Nat) : tb x k = nI 0 ∨ tb x k = nI 1 := by
  obtain ⟨j, hj, e⟩ := pk_andE (x >>> (nI k &&& 31)) (m := nI 1) 1 (by decide)
  rcases (show j = 0 ∨ j = 1 by omega) with rfl | rfl
  · exact Or.inl e
  · exact Or.inr e
theorem tb_n1 {x : Int32} {k : Nat} (h : ¬ tb x k = nI 1) : tb x k = 0 := (tb01 x k).elim id (fun z => absurd z h)
theorem tb_1 {x : Int32} {k : Nat} (h : tb x k = nI 1) : ¬ tb x k = 0 := by rw [h]; decide
def lfS (x : Int32) : Nat → Int32
  | 0 => x
  | k + 1 => lfS x k &&& (lfS x k - nI 1)
theorem many_7 : ∀ s, s < 128 → lfS (nI s) 7 = 0 := by decide +kernel
theorem many_k : ∀ s, s < 128 → ∀ k, k < 8 → lfS (nI s) k = 0 → (∀ j, j < k → ¬ lfS (nI s) j = 0) → nI k = bc (nI s) := by decide +kernel
theorem thOn_lt (f : Nat → Int32) (q : Nat) : ∀ k, ∃ s, s < 2 ^ k ∧ thOn f q k = nI s
  | 0 => ⟨0, by decide, rfl⟩
  | k + 1 => by
    obtain ⟨s, h, e⟩ := thOn_lt f q k
    rw [thOn]
    split
    · exact ⟨s, Nat.lt_trans h (Nat.pow_lt_pow_right (by decide) (by omega)), e⟩
    · exact ⟨s ||| 2 ^ k, Nat.or_lt_two_pow (Nat.lt_trans h (Nat.pow_lt_pow_right (by decide) (by omega))) (Nat.pow_lt_pow_right (by decide) (by omega)), by rw [e, orI]⟩
theorem thOn_s7 (f : Nat → Int32) (q : Nat) : s7 (thOn f q 7) := thOn_lt f q 7
theorem s7_or {x y : Int32} (hx : s7 x) (hy : s7 y) : s7 (x ||| y) := by
  obtain ⟨a, ha, rfl⟩ := hx
  obtain ⟨b, hb, rfl⟩ := hy
  exact ⟨a ||| b, Nat.or_lt_two_pow (n := 7) ha hb, orI a b⟩
theorem s7_andl {x : Int32} (hx : s7 x) (y : Int32) : s7 (x &&& y) := by
  obtain ⟨a, ha, rfl⟩ := hx
  have e : nI a &&& y = (nI a &&& y) &&& nI 127 := by
    have e2 : nI a &&& nI 127 = nI a := by rw [andI, show a &&& 127 = a % 2 ^ 7 from Nat.and_two_pow_sub_one_eq_mod a 7, Nat.mod_eq_of_lt ha]
    rw [Int32.and_assoc, Int32.and_comm y, ← Int32.and_assoc, e2]
  obtain ⟨j, hj, e3⟩ := pk_andE (nI a &&& y) (m := nI 127) 7 (by decide)
  exact ⟨j, hj, e.trans e3⟩
theorem s7_andr {y : Int32} (x : Int32) (hy : s7 y) : s7 (x &&& y) := by rw [Int32.and_comm]; exact s7_andl hy x
theorem s7_0 : s7 (nI 0) := ⟨0, by decide, rfl⟩
theorem thSet_s7 (f : Nat → Int32) (x : Int32) : ∀ k, s7 (thSet f x k)
  | 0 => s7_0
  | k + 1 => by
    rw [thSet]
    split
    · exact thSet_s7 f x k
    · exact s7_or (thSet_s7 f x k) (thOn_s7 f k)
theorem thOn_z {f : Nat → Int32} {q : Nat} (h : ∀ t, t < 7 → f (q * 7 + t) = nI 0) : ∀ k, k ≤ 7 → thOn f q k = nI 0
  | 0, _ => rfl
  | k + 1, hk => by rw [thOn, if_pos (by rw [h k (by omega)]; decide), thOn_z h k (by omega)]
theorem thSet_m {T : TS} {f : Nat → Int32} (hS : SI T f) (x : Int32) : ∀ j, T.2.1 + j ≤ 6 → thSet f x (T.2.1 + j) = thSet f x T.2.1
  | 0, _ => rfl
  | j + 1, h => by
    rw [← Nat.add_assoc, thSet, thOn_z (hS.2.1 (T.2.1 + j) · (by omega) (by omega)) 7 (by decide), orz, thSet_m hS x j (by omega)]
    split <;> rfl
theorem slOn_n {T : TS} {f : Nat → Int32} (hS : SI T f) {q : Nat} (hq : q < 6) : ∀ j, T.1 + j ≤ 6 → slOn f q (T.1 + j) = slOn f q T.1
  | 0, _ => rfl
  | j + 1, h => by
    rw [← Nat.add_assoc, slOn, if_neg, slOn_n hS hq j (by omega)]
    intro e
    rcases hS.2.2.1 (T.1 + j) (by omega) with h1 | h1
    · rw [e] at h1
      have : ∀ q, q < 6 → ¬ nI q = (-9) := by decide +kernel
      exact this q hq h1
    · omega

set_option maxHeartbeats 4000000 in
set_option maxRecDepth 100000 in
theorem kX12_isPerson (l : Launch) (E : EX) (m0 x0 x1 x2 x3 x4 x5 x6 x7 x8 x9 n und nt : Nat) (tr : Int64) (Q : RS) (T : TS) (p : Int32) (hT : T.1 ≤ 6) : M l E yX12_isPerson wsX12_isPerson { frames := 1, cells := 0, slots := 0, locals := 25 } 0 0 [.ref m0, .int p] [(m0, oB 12 [.ref x0, .int (nI n), .int (nI Q.1), .int (nI Q.2.2.1), .int Q.2.1, .int Q.2.2.2, .ref x1, .ref x2, .ref x3, .ref x4, .int (nI und), .ref x5, .ref x6, .int (nI nt), .ref x7, .ref x8, .long tr, .ref x9]), (x2, iA E 21 (papO T))] (is1 (some (.int (bI (inR p T.1)))) [(m0, oB 12 [.ref x0, .int (nI n), .int (nI Q.1), .int (nI Q.2.2.1), .int Q.2.1, .int Q.2.2.2, .ref x1, .ref x2, .ref x3, .ref x4, .int (nI und), .ref x5, .ref x6, .int (nI nt), .ref x7, .ref x8, .long tr, .ref x9]), (x2, iA E 21 (papO T))]) := by
  refine M.ofG (cc := cX12_isPerson) (maxL := 2) (ret := (some .boolean)) (lv := [(0, .ref m0), (1, .int p)]) (own := RX12) (by decide) rfl rfl (Nat.le_of_ble_eq_true rfl) rfl ?_
  intro K C X _
  have i12 : ∀ w ∈ wsX120, w ∈ wsX12_isPerson := by decide +kernel
  refine g_iload_n C dX12_isPerson_0 rfl 1 rfl ?_
  refine g_i2l C dX12_isPerson_1 ?_
  refine g_lconst C 0 dX12_isPerson_2 rfl ?_
  refine g_aload_n C dX12_isPerson_3 rfl 0 rfl ?_
  refine g_get C i12 0 rfl rfl 7 (by decide) (List.mem_of_getElem? (i := 1) rfl) rfl rfl dX12_isPerson_4 ?_
  refine g_iconst C (nI 0) dX12_isPerson_7 (by decide) ?_
  refine g_iald C 1 rfl (by omega) (by decide) dX12_isPerson_8 ?_
  refine g_as (papO_0 _) ?_
  refine g_iconst C (nI 1) dX12_isPerson_9 (by decide) ?_
  refine g_isub C dX12_isPerson_10 ?_
  refine g_i2l C dX12_isPerson_11 ?_
  refine g_callS C (rest := []) (n := 3) (kX12_in l E p.toInt64 0 (((nI T.1) - (nI 1)).toInt64) ) gX12_isPerson_X12_in rfl ⟨rfl, rfl⟩ (by decide) (Nat.le_of_ble_eq_true rfl) rfl (by decide +kernel) rfl dX12_isPerson_12 [] [0, 1] rfl rfl ?_
  refine g_is1 (ws2 := [(m0, oB 12 [.ref x0, .int (nI n), .int (nI Q.1), .int (nI Q.2.2.1), .int Q.2.1, .int Q.2.2.2, .ref x1, .ref x2, .ref x3, .ref x4, .int (nI und), .ref x5, .ref x6, .int (nI nt), .ref x7, .ref x8, .long tr, .ref x9]), (x2, iA E 21 (papO T))]) (st2 := [.int (bI (inL p.toInt64 0 (((nI T.1) - (nI 1)).toInt64)))]) [0, 1] rfl rfl rfl ?_
  exact g_zret C X (nar_bI _) dX12_isPerson_15 (⟨congrArg (fun z => some (Value.int z)) (bI_congr (inL_sub p (by omega))), rfl⟩)

set_option maxHeartbeats 4000000 in
set_option maxRecDepth 100000 in
theorem kX12_isPillow (l : Launch) (E : EX) (m0 x0 x1 x2 x3 x4 x5 x6 x7 x8 x9 n und nt : Nat) (tr : Int64) (Q : RS) (T : TS) (p : Int32) (hT : T.2.1 ≤ 6) : M l E yX12_isPillow wsX12_isPillow { frames := 1, cells := 0, slots := 0, locals := 25 } 0 0 [.ref m0, .int p] [(m0, oB 12 [.ref x0, .int (nI n), .int (nI Q.1), .int (nI Q.2.2.1), .int Q.2.1, .int Q.2.2.2, .ref x1, .ref x2, .ref x3, .ref x4, .int (nI und), .ref x5, .ref x6, .int (nI nt), .ref x7, .ref x8, .long tr, .ref x9]), (x2, iA E 21 (papO T))] (is1 (some (.int (bI (inR p T.2.1)))) [(m0, oB 12 [.ref x0, .int (nI n), .int (nI Q.1), .int (nI Q.2.2.1), .int Q.2.1, .int Q.2.2.2, .ref x1, .ref x2, .ref x3, .ref x4, .int (nI und), .ref x5, .ref x6, .int (nI nt), .ref x7, .ref x8, .long tr, .ref x9]), (x2, iA E 21 (papO T))]) := by
  refine M.ofG (cc := cX12_isPillow) (maxL := 2) (ret := (some .boolean)) (lv := [(0, .ref m0), (1, .int p)]) (own := RX12) (by decide) rfl rfl (Nat.le_of_ble_eq_true rfl) rfl ?_
  intro K C X _
  have i12 : ∀ w ∈ wsX120, w ∈ wsX12_isPillow := by decide +kernel
  refine g_iload_n C dX12_isPillow_0 rfl 1 rfl ?_
  refine g_i2l C dX12_isPillow_1 ?_
  refine g_lconst C 0 dX12_isPillow_2 rfl ?_
  refine g_aload_n C dX12_isPillow_3 rfl 0 rfl ?_
  refine g_get C i12 0 rfl rfl 7 (by decide) (List.mem_of_getElem? (i := 1) rfl) rfl rfl dX12_isPillow_4 ?_
  refine g_iconst C (nI 1) dX12_isPillow_7 (by decide) ?_
  refine g_iald C 1 rfl (by omega) (by decide) dX12_isPillow_8 ?_
  refine g_as (papO_1 _) ?_
  refine g_iconst C (nI 1) dX12_isPillow_9 (by decide) ?_
  refine g_isub C dX12_isPillow_10 ?_
  refine g_i2l C dX12_isPillow_11 ?_
  refine g_callS C (rest := []) (n := 3) (kX12_in l E p.toInt64 0 (((nI T.2.1) - (nI 1)).toInt64) ) gX12_isPillow_X12_in rfl ⟨rfl, rfl⟩ (by decide) (Nat.le_of_ble_eq_true rfl) rfl (by decide +kernel) rfl dX12_isPillow_12 [] [0, 1] rfl rfl ?_
  refine g_is1 (ws2 := [(m0, oB 12 [.ref x0, .int (nI n), .int (nI Q.1), .int (nI Q.2.2.1), .int Q.2.1, .int Q.2.2.2, .ref x1, .ref x2, .ref x3, .ref x4, .int (nI und), .ref x5, .ref x6, .int (nI nt), .ref x7, .ref x8, .long tr, .ref x9]), (x2, iA E 21 (papO T))]) (st2 := [.int (bI (inL p.toInt64 0 (((nI T.2.1) - (nI 1)).toInt64)))]) [0, 1] rfl rfl rfl ?_
  exact g_zret C X (nar_bI _) dX12_isPillow_15 (⟨congrArg (fun z => some (Value.int z)) (bI_congr (inL_sub p (by omega))), rfl⟩)

set_option maxHeartbeats 4000000 in
set_option maxRecDepth 100000 in
theorem kX12_knows (l : Launch) (E : EX) (m0 x0 x1 x2 x3 x4 x5 x6 x7 x8 x9 n und nt : Nat) (tr : Int64) (Q : RS) (T : TS) (p : Nat) (hp : p < T.1) (hT : T.1 ≤ 6) : M l E yX12_knows wsX12_knows { frames := 0, cells := 0, slots := 0, locals := 0 } 0 0 [.ref m0, .int (nI p)] [(m0, oB 12 [.ref x0, .int (nI n), .int (nI Q.1), .int (nI Q.2.2.1), .int Q.2.1, .int Q.2.2.2, .ref x1, .ref x2, .ref x3, .ref x4, .int (nI und), .ref x5, .ref x6, .int (nI nt), .ref x7, .ref x8, .long tr, .ref x9]), (x2, iA E 21 (papO T))] (is1 (some (.int (T.2.2.1 p))) [(m0, oB 12 [.ref x0, .int (nI n), .int (nI Q.1), .int (nI Q.2.2.1), .int Q.2.1, .int Q.2.2.2, .ref x1, .ref x2, .ref x3, .ref x4, .int (nI und), .ref x5, .ref x6, .int (nI nt), .ref x7, .ref x8, .long tr, .ref x9]), (x2, iA E 21 (papO T))]) := by
  refine M.ofG (cc := cX12_knows) (maxL := 2) (ret := (some .int)) (lv := [(0, .ref m0), (1, .int (nI p))]) (own := RX12) (by decide) rfl rfl (Nat.le_of_ble_eq_true rfl) rfl ?_
  intro K C X _
  have i12 : ∀ w ∈ wsX120, w ∈ wsX12_knows := by decide +kernel
  refine g_aload_n C dX12_knows_0 rfl 0 rfl ?_
  refine g_get C i12 0 rfl rfl 7 (by decide) (List.mem_of_getElem? (i := 1) rfl) rfl rfl dX12_knows_1 ?_
  refine g_iconst C (nI 2) dX12_knows_4 (by decide) ?_
  refine g_iconst C (nI 2) dX12_knows_5 (by decide) ?_
  refine g_iload_n C dX12_knows_6 rfl 1 rfl ?_
  refine g_imulN C dX12_knows_7 ?_
  refine g_iaddN C dX12_knows_8 ?_
  refine g_iald C 1 rfl (by omega) (by decide) dX12_knows_9 ?_
  refine g_as (papO_k (by omega) (by omega)) ?_
  exact g_iret C X dX12_knows_10 (⟨rfl, rfl⟩)

set_option maxHeartbeats 4000000 in
set_option maxRecDepth 100000 in
theorem kX12_many (l : Launch) (E : EX) (x : Int32) (hx : s7 x) : M l E yX12_many wsX12_many { frames := 0, cells := 0, slots := 0, locals := 0 } 0 0 [.int x] [] (is1 (some (.int (bc x))) []) := by
  refine M.ofG (cc := cX12_many) (maxL := 3) (ret := (some .int)) (lv := [(0, .int x)]) (own := RX12) (by decide) rfl rfl (Nat.le_of_ble_eq_true rfl) rfl ?_
  intro K C X _
  refine g_iconst C (nI 0) dX12_many_0 (by decide) ?_
  refine g_istore_n C (lv' := [(1, .int (nI 0)), (0, .int x)]) dX12_many_1 rfl (by decide) rfl ?_
  refine g_iload_n C dX12_many_2 rfl 1 rfl ?_
  refine g_istore_n C (lv' := [(2, .int x), (1, .int (nI 0)), (0, .int x)]) dX12_many_3 rfl (by decide) rfl ?_
  have L4 : ∀ (zz k : Nat) (a : Int32), k + zz = 7 + 1 → k ≤ 7 → (a = lfS x k) → (∀ j, j < k → ¬ lfS x j = 0) → G K 0 0 4 [(0, .int x), (1, .int (nI k)), (2, .int a)] [] [] := by
    intro zz
    induction zz with
    | zero => intro k a hL4 gL4; exfalso; omega
    | succ zz ihL4 =>
      intro k a hL4 gL4 ha hj9
      refine g_iload_n C dX12_many_4 rfl 2 rfl ?_
      refine g_if_eq C 20 dX12_many_5 (by decide) (fun cq1 => ?_) (fun cq1 => ?_)
      · refine g_iload_n C dX12_many_20 rfl 1 rfl ?_
        exact g_iret C X dX12_many_21 (⟨by obtain ⟨s, hs, rfl⟩ := hx; rw [many_k s hs k (by omega) (by rw [← ha]; exact cq1) hj9], rfl⟩)
      · have hk8 : k < 7 := by rcases Nat.lt_or_ge k 7 with h | h; (exact h); (exfalso; obtain ⟨s, hs, rfl⟩ := hx; have h9 := many_7 s hs; rw [show 7 = k by omega, ← ha] at h9; exact cq1 h9)
        refine g_iincN C (lv' := [(1, .int (nI (k + 1))), (0, .int x), (2, .int a)]) dX12_many_8 1 rfl (by decide) rfl ?_
        refine g_iload_n C dX12_many_11 rfl 2 rfl ?_
        refine g_iload_n C dX12_many_12 rfl 2 rfl ?_
        refine g_iconst C (nI 1) dX12_many_13 (by decide) ?_
        refine g_isub C dX12_many_14 ?_
        refine g_iand C dX12_many_15 ?_
        refine g_istore_n C (lv' := [(2, .int (a &&& (a - (nI 1)))), (1, .int (nI (k + 1))), (0, .int x)]) dX12_many_16 rfl (by decide) rfl ?_
        refine g_goto C 4 dX12_many_17 (by decide) ?_
        refine g_sub (lv' := [(0, .int x), (1, .int (nI (k + 1))), (2, .int (a &&& (a - (nI 1))))]) [2, 1, 0] rfl ?_
        exact ihL4 (k + 1) (a &&& (a - (nI 1))) (by omega) (by omega) (by rw [lfS, ← ha]) (lt_s hj9 (by rw [← ha]; exact cq1))
  refine g_sub (lv' := [(0, .int x), (1, .int (nI 0)), (2, .int x)]) [2, 1, 0] rfl ?_
  exact L4 (7 + 1 - 0) 0 x (by omega) (by omega) (rfl) (fun j h => absurd h (Nat.not_lt_zero j))

set_option maxHeartbeats 4000000 in
set_option maxRecDepth 100000 in
theorem kX12_often (l : Launch) (E : EX) (m0 x0 x1 x2 x3 x4 x5 x6 x7 x8 x9 n und nt : Nat) (tr : Int64) (Q : RS) (f : Nat → Int32) (q t : Nat) (hq : q < 6) (ht : t < 7) : M l E yX12_often wsX12_often { frames := 0, cells := 0, slots := 0, locals := 0 } 0 0 [.ref m0, .int (nI q), .int (nI t)] [(m0, oB 12 [.ref x0, .int (nI n), .int (nI Q.1), .int (nI Q.2.2.1), .int Q.2.1, .int Q.2.2.2, .ref x1, .ref x2, .ref x3, .ref x4, .int (nI und), .ref x5, .ref x6, .int (nI nt), .ref x7, .ref x8, .long tr, .ref x9]), (x3, iA E 50 (nowO f))] (is1 (some (.int (f (q * 7 + t)))) [(m0, oB 12 [.ref x0, .int (nI n), .int (nI Q.1), .int (nI Q.2.2.1), .int Q.2.1, .int Q.2.2.2, .ref x1, .ref x2, .ref x3, .ref x4, .int (nI und), .ref x5, .ref x6, .int (nI nt), .ref x7, .ref x8, .long tr, .ref x9]), (x3, iA E 50 (nowO f))]) := by
  refine M.ofG (cc := cX12_often) (maxL := 3) (ret := (some .int)) (lv := [(0, .ref m0), (1, .int (nI q)), (2, .int (nI t))]) (own := RX12) (by decide) rfl rfl (Nat.le_of_ble_eq_true rfl) rfl ?_
  intro K C X _
  have i12 : ∀ w ∈ wsX120, w ∈ wsX12_often := by decide +kernel
  refine g_aload_n C dX12_often_0 rfl 0 rfl ?_
  refine g_get C i12 0 rfl rfl 8 (by decide) (List.mem_of_getElem? (i := 1) rfl) rfl rfl dX12_often_1 ?_
  refine g_bipush C (nI 8) dX12_often_4 (by decide) ?_
  refine g_bipush C (nI 7) dX12_often_6 (by decide) ?_
  refine g_iload_n C dX12_often_8 rfl 1 rfl ?_
  refine g_imulN C dX12_often_9 ?_
  refine g_iaddN C dX12_often_10 ?_
  refine g_iload_n C dX12_often_11 rfl 2 rfl ?_
  refine g_iaddN C dX12_often_12 ?_
  refine g_iald C 1 rfl (by omega) (by decide) dX12_often_13 ?_
  refine g_as (nowO_h (by omega) (by omega)) ?_
  exact g_iret C X dX12_often_14 (⟨rfl, rfl⟩)

set_option maxHeartbeats 4000000 in
set_option maxRecDepth 100000 in
theorem kX12_hears (l : Launch) (E : EX) (m0 x0 x1 x2 x3 x4 x5 x6 x7 x8 x9 n und nt : Nat) (tr : Int64) (Q : RS) (f : Nat → Int32) (q : Nat) (hq : q < 6) : M l E yX12_hears wsX12_hears { frames := 1, cells := 0, slots := 0, locals := 22 } 0 0 [.ref m0, .int (nI q)] [(m0, oB 12 [.ref x0, .int (nI n), .int (nI Q.1), .int (nI Q.2.2.1), .int Q.2.1, .int Q.2.2.2, .ref x1, .ref x2, .ref x3, .ref x4, .int (nI und), .ref x5, .ref x6, .int (nI nt), .ref x7, .ref x8, .long tr, .ref x9]), (x3, iA E 50 (nowO f))] (is1 (some (.int (thOn f q 7))) [(m0, oB 12 [.ref x0, .int (nI n), .int (nI Q.1), .int (nI Q.2.2.1), .int Q.2.1, .int Q.2.2.2, .ref x1, .ref x2, .ref x3, .ref x4, .int (nI und), .ref x5, .ref x6, .int (nI nt), .ref x7, .ref x8, .long tr, .ref x9]), (x3, iA E 50 (nowO f))]) := by
  refine M.ofG (cc := cX12_hears) (maxL := 4) (ret := (some .int)) (lv := [(0, .ref m0), (1, .int (nI q))]) (own := RX12) (by decide) rfl rfl (Nat.le_of_ble_eq_true rfl) rfl ?_
  intro K C X _
  refine g_iconst C (nI 0) dX12_hears_0 (by decide) ?_
  refine g_istore_n C (lv' := [(2, .int (nI 0)), (0, .ref m0), (1, .int (nI q))]) dX12_hears_1 rfl (by decide) rfl ?_
  refine g_iconst C (nI 0) dX12_hears_2 (by decide) ?_
  refine g_istore_n C (lv' := [(3, .int (nI 0)), (2, .int (nI 0)), (0, .ref m0), (1, .int (nI q))]) dX12_hears_3 rfl (by decide) rfl ?_
  have L4 : ∀ (zz k : Nat) (a : Int32), k + zz = 7 + 1 → k ≤ 7 → (a = thOn f q k) → G K 0 0 4 [(0, .ref m0), (1, .int (nI q)), (2, .int a), (3, .int (nI k))] [] [(m0, oB 12 [.ref x0, .int (nI n), .int (nI Q.1), .int (nI Q.2.2.1), .int Q.2.1, .int Q.2.2.2, .ref x1, .ref x2, .ref x3, .ref x4, .int (nI und), .ref x5, .ref x6, .int (nI nt), .ref x7, .ref x8, .long tr, .ref x9]), (x3, iA E 50 (nowO f))] := by
    intro zz
    induction zz with
    | zero => intro k a hL4 gL4; exfalso; omega
    | succ zz ihL4 =>
      intro k a hL4 gL4 ha
      refine g_iload_n C dX12_hears_4 rfl 3 rfl ?_
      refine g_bipush C (nI 7) dX12_hears_5 (by decide) ?_
      refine g_icmp_geN C 35 dX12_hears_7 (by decide) (by omega) (by omega) (fun cq1 => ?_) (fun cq1 => ?_)
      · have hk : k = 7 := by omega
        refine g_iload_n C dX12_hears_35 rfl 2 rfl ?_
        exact g_iret C X dX12_hears_36 (⟨by rw [ha, hk], rfl⟩)
      · refine g_iload_n C dX12_hears_10 rfl 2 rfl ?_
        refine g_aload_n C dX12_hears_11 rfl 0 rfl ?_
        refine g_iload_n C dX12_hears_12 rfl 1 rfl ?_
        refine g_iload_n C dX12_hears_13 rfl 3 rfl ?_
        refine g_callV C (rest := [.int a]) (n := 2) (kX12_often l E m0 x0 x1 x2 x3 x4 x5 x6 x7 x8 x9 n und nt tr Q f q k (by omega) (by omega)) gX12_hears_X12_often rfl ⟨rfl, rfl⟩ (by decide) (Nat.le_of_ble_eq_true rfl) rfl (by decide +kernel) rfl dX12_hears_14 0 rfl rfl [0, 1] [] rfl rfl ?_
        refine g_is1 (ws2 := [(m0, oB 12 [.ref x0, .int (nI n), .int (nI Q.1), .int (nI Q.2.2.1), .int Q.2.1, .int Q.2.2.2, .ref x1, .ref x2, .ref x3, .ref x4, .int (nI und), .ref x5, .ref x6, .int (nI nt), .ref x7, .ref x8, .long tr, .ref x9]), (x3, iA E 50 (nowO f))]) (st2 := [.int (f (q * 7 + k)), .int a]) [0, 1] rfl rfl rfl ?_
        refine g_if_le C 26 dX12_hears_17 (by decide) (fun cq2 => ?_) (fun cq2 => ?_)
        · refine g_iconst C (nI 0) dX12_hears_26 (by decide) ?_
          refine g_ior C dX12_hears_27 ?_
          refine g_istore_n C (lv' := [(2, .int (a ||| (nI 0))), (0, .ref m0), (1, .int (nI q)), (3, .int (nI k))]) dX12_hears_28 rfl (by decide) rfl ?_
          refine g_iincN C (lv' := [(3, .int (nI (k + 1))), (2, .int (a ||| (nI 0))), (0, .ref m0), (1, .int (nI q))]) dX12_hears_29 3 rfl (by decide) rfl ?_
          refine g_goto C 4 dX12_hears_32 (by decide) ?_
          refine g_sub (lv' := [(0, .ref m0), (1, .int (nI q)), (2, .int (a ||| (nI 0))), (3, .int (nI (k + 1)))]) [2, 3, 1, 0] rfl ?_
          exact ihL4 (k + 1) (a ||| (nI 0)) (by omega) (by omega) (by rw [thOn, ← ha]; first | (rw [if_pos cq2, orz]; done) | (rw [if_neg cq2]; done))
        · refine g_iconst C (nI 1) dX12_hears_20 (by decide) ?_
          refine g_iload_n C dX12_hears_21 rfl 3 rfl ?_
          refine g_ishl1 C dX12_hears_22 (by omega) ?_
          refine g_goto C 27 dX12_hears_23 (by decide) ?_
          refine g_ior C dX12_hears_27 ?_
          refine g_istore_n C (lv' := [(2, .int (a ||| (nI (2 ^ k)))), (0, .ref m0), (1, .int (nI q)), (3, .int (nI k))]) dX12_hears_28 rfl (by decide) rfl ?_
          refine g_iincN C (lv' := [(3, .int (nI (k + 1))), (2, .int (a ||| (nI (2 ^ k)))), (0, .ref m0), (1, .int (nI q))]) dX12_hears_29 3 rfl (by decide) rfl ?_
          refine g_goto C 4 dX12_hears_32 (by decide) ?_
          refine g_sub (lv' := [(0, .ref m0), (1, .int (nI q)), (2, .int (a ||| (nI (2 ^ k)))), (3, .int (nI (k + 1)))]) [2, 3, 1, 0] rfl ?_
          exact ihL4 (k + 1) (a ||| (nI (2 ^ k))) (by omega) (by omega) (by rw [thOn, ← ha]; first | (rw [if_pos cq2, orz]; done) | (rw [if_neg cq2]; done))
  refine g_sub (lv' := [(0, .ref m0), (1, .int (nI q)), (2, .int (nI 0)), (3, .int (nI 0))]) [2, 3, 1, 0] rfl ?_
  exact L4 (7 + 1 - 0) 0 (nI 0) (by omega) (by omega) (by first | rfl | omega | (simp []; done))

set_option maxHeartbeats 4000000 in
set_option maxRecDepth 100000 in
theorem kX12_hear (l : Launch) (E : EX) (m0 x0 x1 x2 x3 x4 x5 x6 x7 x8 x9 n und nt : Nat) (tr : Int64) (Q : RS) (T : TS) (f : Nat → Int32) (x : Int32) (hT : T.2.1 ≤ 6) (hS : SI T f) : M l E yX12_hear wsX12_hear { frames := 2, cells := 0, slots := 0, locals := 45 } 0 0 [.ref m0, .int x] [(m0, oB 12 [.ref x0, .int (nI n), .int (nI Q.1), .int (nI Q.2.2.1), .int Q.2.1, .int Q.2.2.2, .ref x1, .ref x2, .ref x3, .ref x4, .int (nI und), .ref x5, .ref x6, .int (nI nt), .ref x7, .ref x8, .long tr, .ref x9]), (x2, iA E 21 (papO T)), (x3, iA E 50 (nowO f))] (is1 (some (.int (thSet f x 6))) [(m0, oB 12 [.ref x0, .int (nI n), .int (nI Q.1), .int (nI Q.2.2.1), .int Q.2.1, .int Q.2.2.2, .ref x1, .ref x2, .ref x3, .ref x4, .int (nI und), .ref x5, .ref x6, .int (nI nt), .ref x7, .ref x8, .long tr, .ref x9]), (x2, iA E 21 (papO T)), (x3, iA E 50 (nowO f))]) := by
  refine M.ofG (cc := cX12_hear) (maxL := 4) (ret := (some .int)) (lv := [(0, .ref m0), (1, .int x)]) (own := RX12) (by decide) rfl rfl (Nat.le_of_ble_eq_true rfl) rfl ?_
  intro K C X _
  have i12 : ∀ w ∈ wsX120, w ∈ wsX12_hear := by decide +kernel
  refine g_iconst C (nI 0) dX12_hear_0 (by decide) ?_
  refine g_istore_n C (lv' := [(2, .int (nI 0)), (0, .ref m0), (1, .int x)]) dX12_hear_1 rfl (by decide) rfl ?_
  refine g_iconst C (nI 0) dX12_hear_2 (by decide) ?_
  refine g_istore_n C (lv' := [(3, .int (nI 0)), (2, .int (nI 0)), (0, .ref m0), (1, .int x)]) dX12_hear_3 rfl (by decide) rfl ?_
  have L4 : ∀ (zz k : Nat) (a : Int32), k + zz = T.2.1 + 1 → k ≤ T.2.1 → (a = thSet f x k) → G K 0 0 4 [(0, .ref m0), (1, .int x), (2, .int a), (3, .int (nI k))] [] [(m0, oB 12 [.ref x0, .int (nI n), .int (nI Q.1), .int (nI Q.2.2.1), .int Q.2.1, .int Q.2.2.2, .ref x1, .ref x2, .ref x3, .ref x4, .int (nI und), .ref x5, .ref x6, .int (nI nt), .ref x7, .ref x8, .long tr, .ref x9]), (x2, iA E 21 (papO T)), (x3, iA E 50 (nowO f))] := by
    intro zz
    induction zz with
    | zero => intro k a hL4 gL4; exfalso; omega
    | succ zz ihL4 =>
      intro k a hL4 gL4 ha
      refine g_iload_n C dX12_hear_4 rfl 3 rfl ?_
      refine g_aload_n C dX12_hear_5 rfl 0 rfl ?_
      refine g_get C i12 0 rfl rfl 7 (by decide) (List.mem_of_getElem? (i := 1) rfl) rfl rfl dX12_hear_6 ?_
      refine g_iconst C (nI 1) dX12_hear_9 (by decide) ?_
      refine g_iald C 1 rfl (by omega) (by decide) dX12_hear_10 ?_
      refine g_as (papO_1 _) ?_
      refine g_icmp_geN C 41 dX12_hear_11 (by decide) (by omega) (by omega) (fun cq1 => ?_) (fun cq1 => ?_)
      · have hk : k = T.2.1 := by omega
        refine g_iload_n C dX12_hear_41 rfl 2 rfl ?_
        exact g_iret C X dX12_hear_42 (⟨by rw [ha, hk, ← thSet_m hS x (6 - T.2.1) (by omega), show T.2.1 + (6 - T.2.1) = 6 by omega], rfl⟩)
      · refine g_iload_n C dX12_hear_14 rfl 2 rfl ?_
        refine g_iload_n C dX12_hear_15 rfl 1 rfl ?_
        refine g_iload_n C dX12_hear_16 rfl 3 rfl ?_
        refine g_ishr C dX12_hear_17 ?_
        refine g_iconst C (nI 1) dX12_hear_18 (by decide) ?_
        refine g_iand C dX12_hear_19 ?_
        refine g_iconst C (nI 1) dX12_hear_20 (by decide) ?_
        refine g_icmp_ne C 32 dX12_hear_21 (by decide) (fun cq2 => ?_) (fun cq2 => ?_)
        · refine g_iconst C (nI 0) dX12_hear_32 (by decide) ?_
          refine g_ior C dX12_hear_33 ?_
          refine g_istore_n C (lv' := [(2, .int (a ||| (nI 0))), (0, .ref m0), (1, .int x), (3, .int (nI k))]) dX12_hear_34 rfl (by decide) rfl ?_
          refine g_iincN C (lv' := [(3, .int (nI (k + 1))), (2, .int (a ||| (nI 0))), (0, .ref m0), (1, .int x)]) dX12_hear_35 3 rfl (by decide) rfl ?_
          refine g_goto C 4 dX12_hear_38 (by decide) ?_
          refine g_sub (lv' := [(0, .ref m0), (1, .int x), (2, .int (a ||| (nI 0))), (3, .int (nI (k + 1)))]) [2, 3, 1, 0] rfl ?_
          exact ihL4 (k + 1) (a ||| (nI 0)) (by omega) (by omega) (by rw [thSet, ← ha]; first | (rw [if_pos (tb_n1 cq2), orz]; done) | (rw [if_neg (tb_1 cq2)]; done))
        · refine g_aload_n C dX12_hear_24 rfl 0 rfl ?_
          refine g_iload_n C dX12_hear_25 rfl 3 rfl ?_
          refine g_callV C (rest := [.int a]) (n := 1) (kX12_hears l E m0 x0 x1 x2 x3 x4 x5 x6 x7 x8 x9 n und nt tr Q f k (by omega)) gX12_hear_X12_hears rfl ⟨rfl, rfl⟩ (by decide) (Nat.le_of_ble_eq_true rfl) rfl (by decide +kernel) rfl dX12_hear_26 0 rfl rfl [0, 2] [1] rfl rfl ?_
          refine g_is1 (ws2 := [(m0, oB 12 [.ref x0, .int (nI n), .int (nI Q.1), .int (nI Q.2.2.1), .int Q.2.1, .int Q.2.2.2, .ref x1, .ref x2, .ref x3, .ref x4, .int (nI und), .ref x5, .ref x6, .int (nI nt), .ref x7, .ref x8, .long tr, .ref x9]), (x2, iA E 21 (papO T)), (x3, iA E 50 (nowO f))]) (st2 := [.int (thOn f k 7), .int a]) [1, 0, 2] rfl rfl rfl ?_
          refine g_goto C 33 dX12_hear_29 (by decide) ?_
          refine g_ior C dX12_hear_33 ?_
          refine g_istore_n C (lv' := [(2, .int (a ||| (thOn f k 7))), (0, .ref m0), (1, .int x), (3, .int (nI k))]) dX12_hear_34 rfl (by decide) rfl ?_
          refine g_iincN C (lv' := [(3, .int (nI (k + 1))), (2, .int (a ||| (thOn f k 7))), (0, .ref m0), (1, .int x)]) dX12_hear_35 3 rfl (by decide) rfl ?_
          refine g_goto C 4 dX12_hear_38 (by decide) ?_
          refine g_sub (lv' := [(0, .ref m0), (1, .int x), (2, .int (a ||| (thOn f k 7))), (3, .int (nI (k + 1)))]) [2, 3, 1, 0] rfl ?_
          exact ihL4 (k + 1) (a ||| (thOn f k 7)) (by omega) (by omega) (by rw [thSet, ← ha]; first | (rw [if_pos (tb_n1 cq2), orz]; done) | (rw [if_neg (tb_1 cq2)]; done))
  refine g_sub (lv' := [(0, .ref m0), (1, .int x), (2, .int (nI 0)), (3, .int (nI 0))]) [2, 3, 1, 0] rfl ?_
  exact L4 (T.2.1 + 1 - 0) 0 (nI 0) (by omega) (by omega) (by first | rfl | omega | (simp []; done))

set_option maxHeartbeats 4000000 in
set_option maxRecDepth 100000 in
theorem kX12_lieOn (l : Launch) (E : EX) (m0 x0 x1 x2 x3 x4 x5 x6 x7 x8 x9 n und nt : Nat) (tr : Int64) (Q : RS) (T : TS) (f : Nat → Int32) (q : Nat) (hT : T.1 ≤ 6) (hq : q < 6) (hS : SI T f) : M l E yX12_lieOn wsX12_lieOn { frames := 0, cells := 0, slots := 0, locals := 0 } 0 0 [.ref m0, .int (nI q)] [(m0, oB 12 [.ref x0, .int (nI n), .int (nI Q.1), .int (nI Q.2.2.1), .int Q.2.1, .int Q.2.2.2, .ref x1, .ref x2, .ref x3, .ref x4, .int (nI und), .ref x5, .ref x6, .int (nI nt), .ref x7, .ref x8, .long tr, .ref x9]), (x2, iA E 21 (papO T)), (x3, iA E 50 (nowO f))] (is1 (some (.int (slOn f q 6))) [(m0, oB 12 [.ref x0, .int (nI n), .int (nI Q.1), .int (nI Q.2.2.1), .int Q.2.1, .int Q.2.2.2, .ref x1, .ref x2, .ref x3, .ref x4, .int (nI und), .ref x5, .ref x6, .int (nI nt), .ref x7, .ref x8, .long tr, .ref x9]), (x2, iA E 21 (papO T)), (x3, iA E 50 (nowO f))]) := by
  refine M.ofG (cc := cX12_lieOn) (maxL := 4) (ret := (some .int)) (lv := [(0, .ref m0), (1, .int (nI q))]) (own := RX12) (by decide) rfl rfl (Nat.le_of_ble_eq_true rfl) rfl ?_
  intro K C X _
  have i12 : ∀ w ∈ wsX120, w ∈ wsX12_lieOn := by decide +kernel
  refine g_iconst C (nI 0) dX12_lieOn_0 (by decide) ?_
  refine g_istore_n C (lv' := [(2, .int (nI 0)), (0, .ref m0), (1, .int (nI q))]) dX12_lieOn_1 rfl (by decide) rfl ?_
  refine g_iconst C (nI 0) dX12_lieOn_2 (by decide) ?_
  refine g_istore_n C (lv' := [(3, .int (nI 0)), (2, .int (nI 0)), (0, .ref m0), (1, .int (nI q))]) dX12_lieOn_3 rfl (by decide) rfl ?_
  have L4 : ∀ (zz k : Nat) (a : Int32), k + zz = T.1 + 1 → k ≤ T.1 → (a = slOn f q k) → G K 0 0 4 [(0, .ref m0), (1, .int (nI q)), (2, .int a), (3, .int (nI k))] [] [(m0, oB 12 [.ref x0, .int (nI n), .int (nI Q.1), .int (nI Q.2.2.1), .int Q.2.1, .int Q.2.2.2, .ref x1, .ref x2, .ref x3, .ref x4, .int (nI und), .ref x5, .ref x6, .int (nI nt), .ref x7, .ref x8, .long tr, .ref x9]), (x2, iA E 21 (papO T)), (x3, iA E 50 (nowO f))] := by
    intro zz
    induction zz with
    | zero => intro k a hL4 gL4; exfalso; omega
    | succ zz ihL4 =>
      intro k a hL4 gL4 ha
      refine g_iload_n C dX12_lieOn_4 rfl 3 rfl ?_
      refine g_aload_n C dX12_lieOn_5 rfl 0 rfl ?_
      refine g_get C i12 0 rfl rfl 7 (by decide) (List.mem_of_getElem? (i := 1) rfl) rfl rfl dX12_lieOn_6 ?_
      refine g_iconst C (nI 0) dX12_lieOn_9 (by decide) ?_
      refine g_iald C 1 rfl (by omega) (by decide) dX12_lieOn_10 ?_
      refine g_as (papO_0 _) ?_
      refine g_icmp_geN C 42 dX12_lieOn_11 (by decide) (by omega) (by omega) (fun cq1 => ?_) (fun cq1 => ?_)
      · have hk : k = T.1 := by omega
        refine g_iload_n C dX12_lieOn_42 rfl 2 rfl ?_
        exact g_iret C X dX12_lieOn_43 (⟨by rw [ha, hk, ← slOn_n hS hq (6 - T.1) (by omega), show T.1 + (6 - T.1) = 6 by omega], rfl⟩)
      · refine g_iload_n C dX12_lieOn_14 rfl 2 rfl ?_
        refine g_aload_n C dX12_lieOn_15 rfl 0 rfl ?_
        refine g_get C i12 0 rfl rfl 8 (by decide) (List.mem_of_getElem? (i := 2) rfl) rfl rfl dX12_lieOn_16 ?_
        refine g_iconst C (nI 2) dX12_lieOn_19 (by decide) ?_
        refine g_iload_n C dX12_lieOn_20 rfl 3 rfl ?_
        refine g_iaddN C dX12_lieOn_21 ?_
        refine g_iald C 2 rfl (by omega) (by decide) dX12_lieOn_22 ?_
        refine g_as (nowO_b (by omega)) ?_
        refine g_iload_n C dX12_lieOn_23 rfl 1 rfl ?_
        refine g_icmp_ne C 33 dX12_lieOn_24 (by decide) (fun cq2 => ?_) (fun cq2 => ?_)
        · refine g_iconst C (nI 0) dX12_lieOn_33 (by decide) ?_
          refine g_ior C dX12_lieOn_34 ?_
          refine g_istore_n C (lv' := [(2, .int (a ||| (nI 0))), (0, .ref m0), (1, .int (nI q)), (3, .int (nI k))]) dX12_lieOn_35 rfl (by decide) rfl ?_
          refine g_iincN C (lv' := [(3, .int (nI (k + 1))), (2, .int (a ||| (nI 0))), (0, .ref m0), (1, .int (nI q))]) dX12_lieOn_36 3 rfl (by decide) rfl ?_
          refine g_goto C 4 dX12_lieOn_39 (by decide) ?_
          refine g_sub (lv' := [(0, .ref m0), (1, .int (nI q)), (2, .int (a ||| (nI 0))), (3, .int (nI (k + 1)))]) [2, 3, 1, 0] rfl ?_
          exact ihL4 (k + 1) (a ||| (nI 0)) (by omega) (by omega) (by rw [slOn, ← ha]; first | (rw [if_neg cq2, orz]; done) | (rw [if_pos cq2]; done))
        · refine g_iconst C (nI 1) dX12_lieOn_27 (by decide) ?_
          refine g_iload_n C dX12_lieOn_28 rfl 3 rfl ?_
          refine g_ishl1 C dX12_lieOn_29 (by omega) ?_
          refine g_goto C 34 dX12_lieOn_30 (by decide) ?_
          refine g_ior C dX12_lieOn_34 ?_
          refine g_istore_n C (lv' := [(2, .int (a ||| (nI (2 ^ k)))), (0, .ref m0), (1, .int (nI q)), (3, .int (nI k))]) dX12_lieOn_35 rfl (by decide) rfl ?_
          refine g_iincN C (lv' := [(3, .int (nI (k + 1))), (2, .int (a ||| (nI (2 ^ k)))), (0, .ref m0), (1, .int (nI q))]) dX12_lieOn_36 3 rfl (by decide) rfl ?_
          refine g_goto C 4 dX12_lieOn_39 (by decide) ?_
          refine g_sub (lv' := [(0, .ref m0), (1, .int (nI q)), (2, .int (a ||| (nI (2 ^ k)))), (3, .int (nI (k + 1)))]) [2, 3, 1, 0] rfl ?_
          exact ihL4 (k + 1) (a ||| (nI (2 ^ k))) (by omega) (by omega) (by rw [slOn, ← ha]; first | (rw [if_neg cq2, orz]; done) | (rw [if_pos cq2]; done))
  refine g_sub (lv' := [(0, .ref m0), (1, .int (nI q)), (2, .int (nI 0)), (3, .int (nI 0))]) [2, 3, 1, 0] rfl ?_
  exact L4 (T.1 + 1 - 0) 0 (nI 0) (by omega) (by omega) (by first | rfl | omega | (simp []; done))

def safR (kn f : Nat → Int32) (m p : Nat) : Nat → Int32
  | 0 => nI (2 ^ m - 1)
  | k + 1 => safR kn f m p k &&& (if ¬ k = p ∧ ¬ f (42 + k) = (-9) ∧ ¬ kn k &&& kn p = 0 then nI (2 ^ (f (42 + k)).toNatClampNeg) ^^^ (-1) else (-1))

set_option maxHeartbeats 4000000 in
set_option maxRecDepth 100000 in
theorem kX12_safe (l : Launch) (E : EX) (m0 x0 x1 x2 x3 x4 x5 x6 x7 x8 x9 n und nt : Nat) (tr : Int64) (Q : RS) (T : TS) (f : Nat → Int32) (p : Nat) (hT : T.1 ≤ 6) (hm : T.2.1 ≤ 6) (hp : p < T.1) (hS : SI T f) : M l E yX12_safe wsX12_safe { frames := 1, cells := 0, slots := 0, locals := 21 } 0 0 [.ref m0, .int (nI p)] [(m0, oB 12 [.ref x0, .int (nI n), .int (nI Q.1), .int (nI Q.2.2.1), .int Q.2.1, .int Q.2.2.2, .ref x1, .ref x2, .ref x3, .ref x4, .int (nI und), .ref x5, .ref x6, .int (nI nt), .ref x7, .ref x8, .long tr, .ref x9]), (x2, iA E 21 (papO T)), (x3, iA E 50 (nowO f))] (is1 (some (.int (safR T.2.2.1 f T.2.1 p T.1))) [(m0, oB 12 [.ref x0, .int (nI n), .int (nI Q.1), .int (nI Q.2.2.1), .int Q.2.1, .int Q.2.2.2, .ref x1, .ref x2, .ref x3, .ref x4, .int (nI und), .ref x5, .ref x6, .int (nI nt), .ref x7, .ref x8, .long tr, .ref x9]), (x2, iA E 21 (papO T)), (x3, iA E 50 (nowO f))]) := by
  refine M.ofG (cc := cX12_safe) (maxL := 5) (ret := (some .int)) (lv := [(0, .ref m0), (1, .int (nI p))]) (own := RX12) (by decide) rfl rfl (Nat.le_of_ble_eq_true rfl) rfl ?_
  intro K C X _
  have i12 : ∀ w ∈ wsX120, w ∈ wsX12_safe := by decide +kernel
  refine g_iconst C (nI 1) dX12_safe_0 (by decide) ?_
  refine g_aload_n C dX12_safe_1 rfl 0 rfl ?_
  refine g_get C i12 0 rfl rfl 7 (by decide) (List.mem_of_getElem? (i := 1) rfl) rfl rfl dX12_safe_2 ?_
  refine g_iconst C (nI 1) dX12_safe_5 (by decide) ?_
  refine g_iald C 1 rfl (by omega) (by decide) dX12_safe_6 ?_
  refine g_as (papO_1 _) ?_
  refine g_ishl1 C dX12_safe_7 (by omega) ?_
  refine g_iconst C (nI 1) dX12_safe_8 (by decide) ?_
  refine g_isubN C dX12_safe_9 (Nat.one_le_two_pow) ?_
  refine g_istore_n C (lv' := [(2, .int (nI ((2 ^ T.2.1) - 1))), (0, .ref m0), (1, .int (nI p))]) dX12_safe_10 rfl (by decide) rfl ?_
  refine g_iconst C (nI 0) dX12_safe_11 (by decide) ?_
  refine g_istore_n C (lv' := [(3, .int (nI 0)), (2, .int (nI ((2 ^ T.2.1) - 1))), (0, .ref m0), (1, .int (nI p))]) dX12_safe_12 rfl (by decide) rfl ?_
  have L13 : ∀ (zz k : Nat) (a : Int32), k + zz = T.1 + 1 → k ≤ T.1 → (a = safR T.2.2.1 f T.2.1 p k) → G K 0 0 13 [(0, .ref m0), (1, .int (nI p)), (2, .int a), (3, .int (nI k))] [] [(m0, oB 12 [.ref x0, .int (nI n), .int (nI Q.1), .int (nI Q.2.2.1), .int Q.2.1, .int Q.2.2.2, .ref x1, .ref x2, .ref x3, .ref x4, .int (nI und), .ref x5, .ref x6, .int (nI nt), .ref x7, .ref x8, .long tr, .ref x9]), (x2, iA E 21 (papO T)), (x3, iA E 50 (nowO f))] := by
    intro zz
    induction zz with
    | zero => intro k a hL13 gL13; exfalso; omega
    | succ zz ihL13 =>
      intro k a hL13 gL13 ha
      refine g_iload_n C dX12_safe_13 rfl 3 rfl ?_
      refine g_aload_n C dX12_safe_14 rfl 0 rfl ?_
      refine g_get C i12 0 rfl rfl 7 (by decide) (List.mem_of_getElem? (i := 1) rfl) rfl rfl dX12_safe_15 ?_
      refine g_iconst C (nI 0) dX12_safe_18 (by decide) ?_
      refine g_iald C 1 rfl (by omega) (by decide) dX12_safe_19 ?_
      refine g_as (papO_0 _) ?_
      refine g_icmp_geN C 78 dX12_safe_20 (by decide) (by omega) (by omega) (fun cq1 => ?_) (fun cq1 => ?_)
      · have hk : k = T.1 := by omega
        refine g_iload_n C dX12_safe_78 rfl 2 rfl ?_
        exact g_iret C X dX12_safe_79 (⟨by rw [ha, hk], rfl⟩)
      · refine g_aload_n C dX12_safe_23 rfl 0 rfl ?_
        refine g_get C i12 0 rfl rfl 8 (by decide) (List.mem_of_getElem? (i := 2) rfl) rfl rfl dX12_safe_24 ?_
        refine g_iconst C (nI 2) dX12_safe_27 (by decide) ?_
        refine g_iload_n C dX12_safe_28 rfl 3 rfl ?_
        refine g_iaddN C dX12_safe_29 ?_
        refine g_iald C 2 rfl (by omega) (by decide) dX12_safe_30 ?_
        refine g_as (nowO_b (by omega)) ?_
        refine g_nm (fun yq2 eyq2 => ?_)
        refine g_istore C (lv' := [(4, .int yq2), (0, .ref m0), (1, .int (nI p)), (2, .int a), (3, .int (nI k))]) dX12_safe_31 (by decide) rfl ?_
        refine g_iload_n C dX12_safe_33 rfl 3 rfl ?_
        refine g_iload_n C dX12_safe_34 rfl 4 rfl ?_
        refine g_iload_n C dX12_safe_35 rfl 2 rfl ?_
        refine g_icmp_eqN C 69 dX12_safe_36 (by decide) (by omega) (by omega) (fun cq3 => ?_) (fun cq3 => ?_)
        · refine g_iconst C ((-1)) dX12_safe_69 (by decide) ?_
          refine g_iand C dX12_safe_70 ?_
          refine g_nm (fun yq4 eyq4 => ?_)
          refine g_istore_n C (lv' := [(2, .int yq4), (4, .int yq2), (0, .ref m0), (1, .int (nI p)), (3, .int (nI k))]) dX12_safe_71 rfl (by decide) rfl ?_
          refine g_iincN C (lv' := [(3, .int (nI (k + 1))), (2, .int yq4), (4, .int yq2), (0, .ref m0), (1, .int (nI p))]) dX12_safe_72 4 rfl (by decide) rfl ?_
          refine g_goto C 13 dX12_safe_75 (by decide) ?_
          refine g_sub (lv' := [(0, .ref m0), (1, .int (nI p)), (2, .int yq4), (3, .int (nI (k + 1)))]) [3, 4, 1, 0] rfl ?_
          exact ihL13 (k + 1) yq4 (by omega) (by omega) (by rw [safR, ← ha, eyq4]; first | (rw [if_neg (fun z => z.1 cq3)]; done) | (rw [if_neg (fun z => z.2.1 (by rw [← eyq2]; exact cq3))]; done) | (rw [if_neg (fun z => z.2.2 cq3)]; done) | (rw [if_pos ⟨trivial, by rw [← eyq2]; exact cq1, cq3⟩, ← eyq2, nI_clamp (by omega)]; done))
        · refine g_iload C dX12_safe_39 0 rfl ?_
          refine g_bipush C ((-9)) dX12_safe_41 (by decide) ?_
          refine g_icmp_eq C 69 dX12_safe_43 (by decide) (fun cq5 => ?_) (fun cq5 => ?_)
          · refine g_iconst C ((-1)) dX12_safe_69 (by decide) ?_
            refine g_iand C dX12_safe_70 ?_
            refine g_nm (fun yq6 eyq6 => ?_)
            refine g_istore_n C (lv' := [(2, .int yq6), (4, .int yq2), (0, .ref m0), (1, .int (nI p)), (3, .int (nI k))]) dX12_safe_71 rfl (by decide) rfl ?_
            refine g_iincN C (lv' := [(3, .int (nI (k + 1))), (2, .int yq6), (4, .int yq2), (0, .ref m0), (1, .int (nI p))]) dX12_safe_72 4 rfl (by decide) rfl ?_
            refine g_goto C 13 dX12_safe_75 (by decide) ?_
            refine g_sub (lv' := [(0, .ref m0), (1, .int (nI p)), (2, .int yq6), (3, .int (nI (k + 1)))]) [3, 4, 1, 0] rfl ?_
            exact ihL13 (k + 1) yq6 (by omega) (by omega) (by rw [safR, ← ha, eyq6]; first | (rw [if_neg (fun z => z.1 cq5)]; done) | (rw [if_neg (fun z => z.2.1 (by rw [← eyq2]; exact cq5))]; done) | (rw [if_neg (fun z => z.2.2 cq5)]; done) | (rw [if_pos ⟨cq1, by rw [← eyq2]; exact cq3, cq5⟩, ← eyq2, nI_clamp (by omega)]; done))
          · obtain ⟨b, hb, rfl⟩ : ∃ b, b < T.2.1 ∧ yq2 = nI b := by rcases hS.2.2.1 k (by omega) with h | ⟨_, b, h, h2⟩; (exact absurd (eyq2.trans h) cq5); (exact ⟨b, h, eyq2.trans h2⟩)
            refine g_aload_n C dX12_safe_46 rfl 1 rfl ?_
            refine g_iload_n C dX12_safe_47 rfl 4 rfl ?_
            refine g_callV C (rest := [.int a]) (n := 1) (kX12_knows l E m0 x0 x1 x2 x3 x4 x5 x6 x7 x8 x9 n und nt tr Q T k (by omega) (by omega)) gX12_safe_X12_knows rfl ⟨rfl, rfl⟩ (by decide) (Nat.le_of_ble_eq_true rfl) rfl (by decide +kernel) rfl dX12_safe_48 0 rfl rfl [0, 1] [2] rfl rfl ?_
            refine g_is1 (ws2 := [(m0, oB 12 [.ref x0, .int (nI n), .int (nI Q.1), .int (nI Q.2.2.1), .int Q.2.1, .int Q.2.2.2, .ref x1, .ref x2, .ref x3, .ref x4, .int (nI und), .ref x5, .ref x6, .int (nI nt), .ref x7, .ref x8, .long tr, .ref x9]), (x2, iA E 21 (papO T)), (x3, iA E 50 (nowO f))]) (st2 := [.int (T.2.2.1 k), .int a]) [1, 2, 0] rfl rfl rfl ?_
            refine g_aload_n C dX12_safe_51 rfl 1 rfl ?_
            refine g_iload_n C dX12_safe_52 rfl 2 rfl ?_
            refine g_callV C (rest := [.int (T.2.2.1 k), .int a]) (n := 1) (kX12_knows l E m0 x0 x1 x2 x3 x4 x5 x6 x7 x8 x9 n und nt tr Q T p (by omega) (by omega)) gX12_safe_X12_knows rfl ⟨rfl, rfl⟩ (by decide) (Nat.le_of_ble_eq_true rfl) rfl (by decide +kernel) rfl dX12_safe_53 0 rfl rfl [0, 1] [2] rfl rfl ?_
            refine g_is1 (ws2 := [(m0, oB 12 [.ref x0, .int (nI n), .int (nI Q.1), .int (nI Q.2.2.1), .int Q.2.1, .int Q.2.2.2, .ref x1, .ref x2, .ref x3, .ref x4, .int (nI und), .ref x5, .ref x6, .int (nI nt), .ref x7, .ref x8, .long tr, .ref x9]), (x2, iA E 21 (papO T)), (x3, iA E 50 (nowO f))]) (st2 := [.int (T.2.2.1 p), .int (T.2.2.1 k), .int a]) [1, 2, 0] rfl rfl rfl ?_
            refine g_iand C dX12_safe_56 ?_
            refine g_if_eq C 69 dX12_safe_57 (by decide) (fun cq7 => ?_) (fun cq7 => ?_)
            · refine g_iconst C ((-1)) dX12_safe_69 (by decide) ?_
              refine g_iand C dX12_safe_70 ?_
              refine g_nm (fun yq8 eyq8 => ?_)
              refine g_istore_n C (lv' := [(2, .int yq8), (4, .int (nI b)), (0, .ref m0), (1, .int (nI p)), (3, .int (nI k))]) dX12_safe_71 rfl (by decide) rfl ?_
              refine g_iincN C (lv' := [(3, .int (nI (k + 1))), (2, .int yq8), (4, .int (nI b)), (0, .ref m0), (1, .int (nI p))]) dX12_safe_72 4 rfl (by decide) rfl ?_
              refine g_goto C 13 dX12_safe_75 (by decide) ?_
              refine g_sub (lv' := [(0, .ref m0), (1, .int (nI p)), (2, .int yq8), (3, .int (nI (k + 1)))]) [3, 4, 1, 0] rfl ?_
              exact ihL13 (k + 1) yq8 (by omega) (by omega) (by rw [safR, ← ha, eyq8]; first | (rw [if_neg (fun z => z.1 cq7)]; done) | (rw [if_neg (fun z => z.2.1 (by rw [← eyq2]; exact cq7))]; done) | (rw [if_neg (fun z => z.2.2 cq7)]; done) | (rw [if_pos ⟨cq3, by rw [← eyq2]; exact cq5, cq7⟩, ← eyq2, nI_clamp (by omega)]; done))
            · refine g_iconst C (nI 1) dX12_safe_60 (by decide) ?_
              refine g_iload C dX12_safe_61 0 rfl ?_
              refine g_ishl1 C dX12_safe_63 (by omega) ?_
              refine g_iconst C ((-1)) dX12_safe_64 (by decide) ?_
              refine g_ixor C dX12_safe_65 ?_
              refine g_goto C 70 dX12_safe_66 (by decide) ?_
              refine g_iand C dX12_safe_70 ?_
              refine g_nm (fun yq9 eyq9 => ?_)
              refine g_istore_n C (lv' := [(2, .int yq9), (4, .int (nI b)), (0, .ref m0), (1, .int (nI p)), (3, .int (nI k))]) dX12_safe_71 rfl (by decide) rfl ?_
              refine g_iincN C (lv' := [(3, .int (nI (k + 1))), (2, .int yq9), (4, .int (nI b)), (0, .ref m0), (1, .int (nI p))]) dX12_safe_72 4 rfl (by decide) rfl ?_
              refine g_goto C 13 dX12_safe_75 (by decide) ?_
              refine g_sub (lv' := [(0, .ref m0), (1, .int (nI p)), (2, .int yq9), (3, .int (nI (k + 1)))]) [3, 4, 1, 0] rfl ?_
              exact ihL13 (k + 1) yq9 (by omega) (by omega) (by rw [safR, ← ha, eyq9]; first | (rw [if_neg (fun z => z.1 cq7)]; done) | (rw [if_neg (fun z => z.2.1 (by rw [← eyq2]; exact cq7))]; done) | (rw [if_neg (fun z => z.2.2 cq7)]; done) | (rw [if_pos ⟨cq3, by rw [← eyq2]; exact cq5, cq7⟩, ← eyq2, nI_clamp (by omega)]; done))
  refine g_sub (lv' := [(0, .ref m0), (1, .int (nI p)), (2, .int (nI ((2 ^ T.2.1) - 1))), (3, .int (nI 0))]) [2, 3, 1, 0] rfl ?_
  exact L13 (T.1 + 1 - 0) 0 (nI ((2 ^ T.2.1) - 1)) (by omega) (by omega) (by first | rfl | omega | (simp []; done))
