/-! bits (the first family is the kit's, laws/BITS.to-paste); safe pillows on both sides -/
def bt (x : Int32) (i : Nat) : Bool := x.toBitVec.getLsbD i
theorem b_ext {x y : Int32} (h : ∀ i, i < 32 → bt x i = bt y i) : x = y := Int32.toBitVec_inj.mp (BitVec.eq_of_getLsbD_eq (fun i hi => h i hi))
theorem b_or (x y : Int32) (i : Nat) : bt (x ||| y) i = (bt x i || bt y i) := by unfold bt; rw [Int32.toBitVec_or, BitVec.getLsbD_or]
theorem b_and (x y : Int32) (i : Nat) : bt (x &&& y) i = (bt x i && bt y i) := by unfold bt; rw [Int32.toBitVec_and, BitVec.getLsbD_and]
theorem b_xor (x y : Int32) (i : Nat) : bt (x ^^^ y) i = (bt x i ^^ bt y i) := by unfold bt; rw [Int32.toBitVec_xor, BitVec.getLsbD_xor]
theorem b_big {x : Int32} {i : Nat} (h : 32 ≤ i) : bt x i = false := BitVec.getLsbD_of_ge _ _ h
theorem b_255 (i : Nat) : bt 255 i = decide (i < 8) := by
  rcases Nat.lt_or_ge i 32 with h | h
  · exact (by decide +kernel : ∀ i, i < 32 → bt 255 i = decide (i < 8)) i h
  · rw [b_big h, decide_eq_false (by omega)]
theorem b_65535 (i : Nat) : bt 65535 i = decide (i < 16) := by
  rcases Nat.lt_or_ge i 32 with h | h
  · exact (by decide +kernel : ∀ i, i < 32 → bt 65535 i = decide (i < 16)) i h
  · rw [b_big h, decide_eq_false (by omega)]
theorem b_m1 : ∀ i, i < 32 → bt (-1) i = true := by decide +kernel
theorem b_0 (i : Nat) : bt 0 i = false := BitVec.getLsbD_zero
theorem s_l : ∀ n, n < 32 → ((nI n &&& 31).toBitVec.smod 32).toNat = n := by decide +kernel
theorem s_u : ∀ n, n < 32 → (((nI n).toUInt32 &&& Int32.toUInt32 31).toBitVec % 32).toNat = n := by decide +kernel
theorem b_shl (n : Nat) (hn : n < 32) (x : Int32) {i : Nat} (hi : i < 32) : bt (x <<< (nI n &&& 31)) i = (decide (n ≤ i) && bt x (i - n)) := by
  unfold bt
  rw [Int32.toBitVec_shiftLeft]
  show (x.toBitVec <<< ((nI n &&& 31).toBitVec.smod 32).toNat).getLsbD i = _
  rw [s_l n hn, BitVec.getLsbD_shiftLeft]
  rcases Nat.lt_or_ge i n with h | h
  · simp [h, Nat.not_le.mpr h]
  · simp [hi, h, Nat.not_lt.mpr h]
theorem b_ushr (n : Nat) (hn : n < 32) (x : Int32) (i : Nat) : bt ((x.toUInt32 >>> ((nI n).toUInt32 &&& Int32.toUInt32 31)).toInt32) i = bt x (n + i) := by
  show (x.toUInt32 >>> ((nI n).toUInt32 &&& Int32.toUInt32 31)).toBitVec.getLsbD i = x.toUInt32.toBitVec.getLsbD (n + i)
  rw [UInt32.toBitVec_shiftRight]
  show (x.toUInt32.toBitVec >>> (((nI n).toUInt32 &&& Int32.toUInt32 31).toBitVec % 32).toNat).getLsbD i = _
  rw [s_u n hn, BitVec.getLsbD_ushiftRight]
theorem b_sshr (n : Nat) (hn : n < 32) (x : Int32) {i : Nat} (hi : i < 32) : bt (x >>> (nI n &&& 31)) i = if n + i < 32 then bt x (n + i) else bt x 31 := by
  unfold bt
  rw [Int32.toBitVec_shiftRight]
  show (x.toBitVec.sshiftRight ((nI n &&& 31).toBitVec.smod 32).toNat).getLsbD i = _
  rw [s_l n hn, BitVec.getLsbD_sshiftRight, BitVec.msb_eq_getLsbD_last]
  simp [hi]
theorem b_nI (a : Nat) {i : Nat} (hi : i < 32) : bt (nI a) i = a.testBit i := by
  show (BitVec.ofNat 32 a).getLsbD i = _
  rw [BitVec.getLsbD_ofNat, decide_eq_true hi, Bool.true_and]
theorem b_p2 {k i : Nat} (hi : i < 32) : bt (nI (2 ^ k)) i = decide (i = k) := by
  rw [b_nI _ hi, Nat.testBit_two_pow]
  by_cases h : k = i
  · rw [decide_eq_true h, decide_eq_true h.symm]
  · rw [decide_eq_false h, decide_eq_false (fun z => h z.symm)]
theorem b_ones {m i : Nat} (hi : i < 32) : bt (nI (2 ^ m - 1)) i = decide (i < m) := by
  rw [b_nI _ hi, Nat.testBit_two_pow_sub_one]
theorem b_not {x : Int32} {i : Nat} (hi : i < 32) : bt (x ^^^ (-1)) i = !bt x i := by
  rw [b_xor, b_m1 i hi]; cases bt x i <;> rfl
theorem b_zero {x : Int32} : x = 0 ↔ ∀ i, i < 32 → bt x i = false := by
  constructor
  · intro h i _; rw [h]; exact b_0 i
  · intro h; exact b_ext (fun i hi => by rw [h i hi, b_0])
theorem b_1 {i : Nat} (hi : i < 32) : bt (nI 1) i = decide (i = 0) := b_p2 (k := 0) hi
theorem tb_bt {x : Int32} {k : Nat} (hk : k < 31) : tb x k = 0 ↔ bt x k = false := by
  rw [b_zero]
  have e : ∀ i, i < 32 → bt (tb x k) i = (bt (x >>> (nI k &&& 31)) i && decide (i = 0)) := fun i hi => by show bt (_ &&& nI 1) i = _; rw [b_and, b_1 hi]
  constructor
  · intro h
    have h0 := h 0 (by decide)
    rw [e 0 (by decide), b_sshr k (by omega) x (by decide), if_pos (by omega)] at h0
    simpa using h0
  · intro h i hi
    rw [e i hi]
    by_cases h0 : i = 0
    · subst h0
      rw [b_sshr k (by omega) x (by decide), if_pos (by omega)]
      simp [h]
    · simp [h0]
theorem tb_ne {x : Int32} {k : Nat} (hk : k < 31) : ¬ tb x k = 0 ↔ bt x k = true := by
  rw [tb_bt hk]; cases bt x k <;> simp
theorem b_sl (f : Nat → Int32) (q : Nat) : ∀ (k i : Nat), i < 32 → k ≤ 6 → bt (slOn f q k) i = (decide (i < k) && decide (f (42 + i) = nI q))
  | 0, i, hi, _ => by rw [slOn, b_nI 0 hi]; simp
  | k + 1, i, hi, hk => by
    have ih := b_sl f q k i hi (by omega)
    rw [slOn]
    by_cases h : f (42 + k) = nI q
    · rw [if_pos h, b_or, ih, b_p2 hi]
      by_cases h2 : i = k
      · subst h2; simp [h]
      · have : decide (i < k + 1) = decide (i < k) := by rw [decide_eq_decide]; omega
        rw [this]; simp [h2]
    · rw [if_neg h, ih]
      by_cases h2 : i = k
      · subst h2; simp [h]
      · have : decide (i < k + 1) = decide (i < k) := by rw [decide_eq_decide]; omega
        rw [this]
theorem or_z {x y : Int32} : x ||| y = 0 ↔ x = 0 ∧ y = 0 := by
  rw [b_zero, b_zero, b_zero]
  constructor
  · intro h
    exact ⟨fun i hi => by have := h i hi; rw [b_or] at this; exact (Bool.or_eq_false_iff.mp this).1, fun i hi => by have := h i hi; rw [b_or] at this; exact (Bool.or_eq_false_iff.mp this).2⟩
  · intro h i hi
    rw [b_or, h.1 i hi, h.2 i hi]; rfl
theorem or_and (x y z : Int32) : (x ||| y) &&& z = (x &&& z) ||| (y &&& z) := b_ext (fun i _ => by rw [b_and, b_or, b_or, b_and, b_and]; cases bt x i <;> cases bt y i <;> cases bt z i <;> rfl)
theorem knT_and (kn : Nat → Int32) (x y : Int32) : ∀ n : Nat, knT kn x n &&& y = 0 ↔ ∀ j, j < n → ¬ tb x j = 0 → kn j &&& y = 0
  | 0 => ⟨fun _ j h => absurd h (Nat.not_lt_zero j), fun _ => by rw [knT, b_zero]; intro i hi; rw [b_and, b_nI 0 hi]; simp⟩
  | n + 1 => by
    have ih := knT_and kn x y n
    rw [knT]
    by_cases h : tb x n = 0
    · rw [if_pos h, ih]
      exact ⟨fun g j hj h2 => by rcases Nat.lt_or_ge j n with h3 | h3; (exact g j h3 h2); (exact absurd (show tb x j = 0 by rw [show j = n by omega]; exact h) h2), fun g j hj h2 => g j (by omega) h2⟩
    · rw [if_neg h, or_and, or_z, ih]
      exact ⟨fun g j hj h2 => by rcases Nat.lt_or_ge j n with h3 | h3; (exact g.1 j h3 h2); (rw [show j = n by omega]; exact g.2), fun g => ⟨fun j hj h2 => g j (by omega) h2, g n (by omega) h⟩⟩
theorem b_sf (kn f : Nat → Int32) (np p : Nat) : ∀ (k i : Nat), i < 32 → k ≤ 6 → bt (sfS kn f np p k) i = (decide (i < k) && decide (knT kn (slOn f i 6 &&& (nI (2 ^ p) ^^^ (-1))) np &&& kn p = 0))
  | 0, i, hi, _ => by rw [sfS, b_nI 0 hi]; simp
  | k + 1, i, hi, hk => by
    have ih := b_sf kn f np p k i hi (by omega)
    rw [sfS]
    by_cases h : knT kn (slOn f k 6 &&& (nI (2 ^ p) ^^^ (-1))) np &&& kn p = 0
    · rw [if_pos h, b_or, ih, b_p2 hi]
      by_cases h2 : i = k
      · subst h2; rw [decide_eq_true h]; simp
      · have : decide (i < k + 1) = decide (i < k) := by rw [decide_eq_decide]; omega
        rw [this]; simp [h2]
    · rw [if_neg h, ih]
      by_cases h2 : i = k
      · subst h2; rw [decide_eq_false h]; simp
      · have : decide (i < k + 1) = decide (i < k) := by rw [decide_eq_decide]; omega
        rw [this]
abbrev sfB (kn f : Nat → Int32) (p i j : Nat) : Prop := ¬ j = p ∧ f (42 + j) = nI i ∧ ¬ kn j &&& kn p = 0
theorem b_sr {T : TS} {f : Nat → Int32} (hS : SI T f) (hm : T.2.1 ≤ 6) (kn : Nat → Int32) (p : Nat) : ∀ (k i : Nat), i < 32 → k ≤ 6 → (bt (safR kn f T.2.1 p k) i = true ↔ i < T.2.1 ∧ ∀ j, j < k → ¬ sfB kn f p i j)
  | 0, i, hi, _ => by rw [safR, b_ones hi]; simp
  | k + 1, i, hi, hk => by
    have ih := b_sr hS hm kn p k i hi (by omega)
    rw [safR, b_and]
    have key : bt (if ¬ k = p ∧ ¬ f (42 + k) = (-9) ∧ ¬ kn k &&& kn p = 0 then nI (2 ^ (f (42 + k)).toNatClampNeg) ^^^ (-1) else (-1)) i = true ↔ ¬ sfB kn f p i k := by
      by_cases h : ¬ k = p ∧ ¬ f (42 + k) = (-9) ∧ ¬ kn k &&& kn p = 0
      · rw [if_pos h]
        rcases hS.2.2.1 k (by omega) with h1 | ⟨-, b, hb, h1⟩
        · exact absurd h1 h.2.1
        · rw [h1, nI_clamp (by omega), b_not hi, b_p2 hi]
          unfold sfB
          rw [h1, nI_eq (by omega) (by omega)]
          constructor
          · intro g z
            simp [z.2.1.symm] at g
          · intro g
            have : ¬ i = b := fun z => g ⟨h.1, z.symm, h.2.2⟩
            simp [this]
      · rw [if_neg h, b_m1 i hi]
        refine ⟨fun _ z => h ⟨z.1, ?_, z.2.2⟩, fun _ => rfl⟩
        rw [z.2.1]
        have : ∀ i, i < 32 → ¬ nI i = (-9) := by decide +kernel
        exact this i hi
    rw [Bool.and_eq_true, ih, key]
    exact ⟨fun g => ⟨g.1.1, fun j hj => by rcases Nat.lt_or_ge j k with h3 | h3; (exact g.1.2 j h3); (rw [show j = k by omega]; exact g.2)⟩, fun g => ⟨⟨g.1, fun j hj => g.2 j (by omega)⟩, g.2 k (by omega)⟩⟩
theorem safR_sfS {T : TS} {f : Nat → Int32} (hS : SI T f) (hn : T.1 ≤ 6) (hm : T.2.1 ≤ 6) {p : Nat} (hp : p < T.1) : safR T.2.2.1 f T.2.1 p T.1 = sfS T.2.2.1 f T.1 p T.2.1 := by
  refine b_ext (fun i hi => ?_)
  rw [Bool.eq_iff_iff, b_sr hS hm T.2.2.1 p T.1 i hi hn, b_sf T.2.2.1 f T.1 p T.2.1 i hi hm, Bool.and_eq_true, decide_eq_true_eq, decide_eq_true_eq, knT_and]
  refine and_congr_right (fun _ => ?_)
  have e : ∀ j, j < T.1 → (¬ tb (slOn f i 6 &&& (nI (2 ^ p) ^^^ (-1))) j = 0 ↔ f (42 + j) = nI i ∧ ¬ j = p) := by
    intro j hj
    rw [tb_ne (by omega), b_and, b_not (by omega), b_p2 (by omega), b_sl f i 6 j (by omega) (by decide), decide_eq_true (show j < 6 by omega)]
    simp
  constructor
  · intro g j hj h2
    have h3 := (e j hj).mp h2
    exact Decidable.not_not.mp (fun z => g j hj ⟨h3.2, h3.1, z⟩)
  · intro g j hj z
    exact z.2.2 (g j hj ((e j hj).mpr ⟨z.2.1, z.1⟩))
