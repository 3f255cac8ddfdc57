/-! the reference: so many things at once -/
def coS (f : Nat → Int32) (t : Nat) : Nat → Int32
  | 0 => nI 0
  | q + 1 => coS f t q + f (q * 7 + t)
def cS (f : Nat → Int32) (m : Nat) (x : Int32) : Nat → Int32
  | 0 => nI 0
  | t + 1 => if tb x t = 0 then cS f m x t else cS f m x t + coS f t m
theorem cS_0 (f : Nat → Int32) (x : Int32) : ∀ c, cS f 0 x c = nI 0
  | 0 => rfl
  | c + 1 => by
    rw [cS, cS_0 f x c]
    split
    · rfl
    · exact addz _
theorem cS_s (f : Nat → Int32) (m : Nat) (x : Int32) : ∀ c, cS f (m + 1) x c = cS f m x c + tiOn f m x c
  | 0 => (addz _).symm
  | c + 1 => by
    rw [cS, cS, tiOn]
    split
    · exact cS_s f m x c
    · rw [cS_s f m x c, coS, Int32.add_assoc, Int32.add_assoc, ← Int32.add_assoc (tiOn f m x c), Int32.add_comm (tiOn f m x c), Int32.add_assoc]
theorem tiSet_c (f : Nat → Int32) (x : Int32) : ∀ m, tiSet f x m = cS f m x 7
  | 0 => (cS_0 f x 7).symm
  | m + 1 => by rw [tiSet, tiSet_c f x m, cS_s]
theorem tiOn_z {f : Nat → Int32} {q : Nat} (x : Int32) (h : ∀ t, t < 7 → f (q * 7 + t) = nI 0) : ∀ k, k ≤ 7 → tiOn f q x k = nI 0
  | 0, _ => rfl
  | k + 1, hk => by
    rw [tiOn, h k (by omega), tiOn_z x h k (by omega)]
    split
    · rfl
    · rfl
theorem tiSet_m {T : TS} {f : Nat → Int32} (hS : SI T f) (x : Int32) : ∀ j, T.2.1 + j ≤ 6 → tiSet f x (T.2.1 + j) = tiSet f x T.2.1
  | 0, _ => rfl
  | j + 1, h => by
    show tiSet f x (T.2.1 + j) + tiOn f (T.2.1 + j) x 7 = _
    rw [tiOn_z x (fun t ht => hS.2.1 (T.2.1 + j) t (by omega) (by omega) ht) 7 (Nat.le_refl 7), addz, tiSet_m hS x j (by omega)]
theorem tiSet_6 {T : TS} {f : Nat → Int32} (hS : SI T f) (hm : T.2.1 ≤ 6) (x : Int32) : cS f T.2.1 x 7 = tiSet f x 6 := by
  have h := tiSet_m hS x (6 - T.2.1) (by omega)
  rw [show T.2.1 + (6 - T.2.1) = 6 by omega] at h
  rw [h, tiSet_c]
theorem bc_s7 : ∀ s, s < 128 → ∃ c, c ≤ 7 ∧ bc (nI s) = nI c ∧ (¬ nI s = 0 → 1 ≤ c) ∧ (nI s = 0 → c = 0) := by
  have h : ∀ s, s < 128 → ∃ c, c < 8 ∧ (bc (nI s) = nI c ∧ (¬ nI s = 0 → 1 ≤ c) ∧ (nI s = 0 → c = 0)) := by decide +kernel
  exact fun s hs => by obtain ⟨c, hc, e⟩ := h s hs; exact ⟨c, by omega, e⟩
abbrev clQ (cl : Nat → Int32) (x : Int32) (a : Nat) : Prop := ¬ tb x a = 0 ∧ ¬ cl a &&& x = 0
theorem clW_n {cl : Nat → Int32} (h7 : ∀ t, t < 7 → s7 (cl t)) (x : Int32) : ∀ k, k ≤ 7 → ∃ s, s ≤ 7 * k ∧ clW cl x k = nI s ∧ ((∀ a, a < k → ¬ clQ cl x a) → s = 0) ∧ (∀ a, a < k → clQ cl x a → 1 ≤ s) ∧ (∀ a b, a < b → b < k → clQ cl x a → clQ cl x b → 2 ≤ s)
  | 0, _ => ⟨0, by omega, rfl, fun _ => rfl, fun a h => absurd h (Nat.not_lt_zero a), fun a b _ h => absurd h (Nat.not_lt_zero b)⟩
  | k + 1, hk => by
    obtain ⟨s, hs, e, hz, h1, h2⟩ := clW_n h7 x k (by omega)
    rw [clW]
    by_cases hb : tb x k = 0
    · rw [if_pos hb]
      have hq : ¬ clQ cl x k := fun w => w.1 hb
      refine ⟨s, by omega, e, fun w => hz (fun a ha => w a (by omega)), fun a ha w => ?_, fun a b hab hbk wa wb => ?_⟩
      · by_cases ea : a = k
        · exact absurd (ea ▸ w) hq
        · exact h1 a (by omega) w
      · by_cases eb : b = k
        · exact absurd (eb ▸ wb) hq
        · exact h2 a b hab (by omega) wa wb
    · rw [if_neg hb]
      obtain ⟨v, hv, ev⟩ := s7_andl (h7 k (by omega)) x
      obtain ⟨c, hc, ec, hc1, hc0⟩ := bc_s7 v hv
      rw [← ev] at ec hc1 hc0
      refine ⟨s + c, by omega, by rw [e, ec, nI_add], fun w => ?_, fun a ha w => ?_, fun a b hab hbk wa wb => ?_⟩
      · have a1 := hz (fun a ha => w a (by omega))
        have a2 := hc0 (Classical.byContradiction fun z => w k (by omega) ⟨hb, z⟩)
        omega
      · by_cases ea : a = k
        · subst ea
          have := hc1 w.2
          omega
        · have := h1 a (by omega) w
          omega
      · by_cases eb : b = k
        · subst eb
          have a1 := h1 a (by omega) wa
          have a2 := hc1 wb.2
          omega
        · have := h2 a b hab (by omega) wa wb
          omega
theorem half_0 : ∀ s, s < 50 → (nI s / nI 2 = 0 ↔ s < 2) := by decide +kernel
theorem cl_free {T : TS} (hT : TI T) (x : Int32) : knT T.2.2.2.2 x 7 &&& x = 0 ↔ clW T.2.2.2.2 x 7 / nI 2 = 0 := by
  obtain ⟨-, -, -, -, -, h7, hsy, hir⟩ := hT
  obtain ⟨s, hs, e, hz, -, h2⟩ := clW_n h7 x 7 (Nat.le_refl 7)
  rw [e, half_0 s (by omega), knT_and]
  constructor
  · intro h
    have := hz (fun a ha w => w.2 (h a ha w.1))
    omega
  · intro hs2 a ha hxa
    refine Classical.byContradiction fun hne => ?_
    obtain ⟨v, hv, ev⟩ := s7_andl (h7 a ha) x
    have hb : ∃ b, b < 7 ∧ bt (T.2.2.2.2 a &&& x) b = true := by
      refine Classical.byContradiction fun hno => hne ?_
      rw [b_zero]
      intro i hi
      by_cases hi7 : i < 7
      · cases hb : bt (T.2.2.2.2 a &&& x) i
        · rfl
        · exact absurd ⟨i, hi7, hb⟩ hno
      · rw [ev, b_nI v hi]
        exact Nat.testBit_lt_two_pow (Nat.lt_of_lt_of_le hv (Nat.pow_le_pow_right (n := 2) (by decide) (show 7 ≤ i by omega)))
    obtain ⟨b, hb7, hb⟩ := hb
    rw [b_and, Bool.and_eq_true] at hb
    have h3 : ¬ tb (T.2.2.2.2 a) b = 0 := (tb_ne (by omega)).mpr hb.1
    have h4 : ¬ tb x b = 0 := (tb_ne (by omega)).mpr hb.2
    have h5 : ¬ tb (T.2.2.2.2 b) a = 0 := by rw [hsy b a hb7 ha]; exact h3
    have h6 : ¬ T.2.2.2.2 b &&& x = 0 := by
      intro z
      rw [b_zero] at z
      have := z a (by omega)
      rw [b_and, (tb_ne (by omega)).mp h5, (tb_ne (by omega)).mp hxa] at this
      exact absurd this (by decide)
    have hab : a ≠ b := by
      intro z
      subst z
      exact h3 (hir a ha)
    rcases Nat.lt_or_gt_of_ne hab with h | h
    · have := h2 a b h hb7 ⟨hxa, hne⟩ ⟨h4, h6⟩
      omega
    · have := h2 b a h ha ⟨h4, h6⟩ ⟨hxa, hne⟩
      omega
def srS (cl f : Nat → Int32) : Nat → Int32 × Int32
  | 0 => (nI 0, (-1))
  | k + 1 => if clW cl (nI k) 7 / nI 2 = 0 then (if tiSet f (nI k) 6 ≤ (srS cl f k).2 then srS cl f k else (nI k, tiSet f (nI k) 6)) else srS cl f k
theorem tb_00 : ∀ k : Nat, k < 7 → tb (nI 0) k = 0 := by decide +kernel
theorem tiOn_00 (f : Nat → Int32) (q : Nat) : ∀ j : Nat, j ≤ 7 → tiOn f q (nI 0) j = nI 0
  | 0, _ => rfl
  | j + 1, hj => by rw [tiOn, if_pos (tb_00 j (by omega)), tiOn_00 f q j (by omega)]
theorem tiSet_00 (f : Nat → Int32) : ∀ j : Nat, tiSet f (nI 0) j = nI 0
  | 0 => rfl
  | j + 1 => by rw [tiSet, tiSet_00 f j, tiOn_00 f j 7 (Nat.le_refl 7)]; rfl
theorem clW_00 (cl : Nat → Int32) : ∀ j : Nat, j ≤ 7 → clW cl (nI 0) j = nI 0
  | 0, _ => rfl
  | j + 1, hj => by rw [clW, if_pos (tb_00 j (by omega)), clW_00 cl j (by omega)]
theorem srS_so (cl f : Nat → Int32) : ∀ k, srS cl f (k + 1) = soS cl f (k + 1)
  | 0 => by
    rw [soS_1, srS, clW_00 cl 7 (Nat.le_refl 7), tiSet_00, if_pos (by decide)]
    exact if_neg (by rw [srS]; decide)
  | k + 1 => by rw [srS, soS, srS_so cl f k]

set_option maxHeartbeats 4000000 in
set_option maxRecDepth 100000 in
theorem kX12_so (l : Launch) (E : EX) (m0 x0 x1 x2 x3 x4 x5 x6 x7 x8 x9 n und nt : Nat) (tr : Int64) (Q : RS) (T : TS) (f : Nat → Int32) (what : Int32) (hT : TI T) (hm : T.2.1 ≤ 6) (hS : SI T f) : M l E yX12_so wsX12_so { frames := 1, cells := 0, slots := 0, locals := 25 } 0 0 [.ref m0, .int what] [(m0, oB 12 [.ref x0, .int (nI n), .int (nI Q.1), .int (nI Q.2.2.1), .int Q.2.1, .int Q.2.2.2, .ref x1, .ref x2, .ref x3, .ref x4, .int (nI und), .ref x5, .ref x6, .int (nI nt), .ref x7, .ref x8, .long tr, .ref x9]), (x2, iA E 21 (papO T)), (x3, iA E 50 (nowO f))] (is1 (some (.int (sooS T.2.2.2.2 f what))) [(m0, oB 12 [.ref x0, .int (nI n), .int (nI Q.1), .int (nI Q.2.2.1), .int Q.2.1, .int Q.2.2.2, .ref x1, .ref x2, .ref x3, .ref x4, .int (nI und), .ref x5, .ref x6, .int (nI nt), .ref x7, .ref x8, .long tr, .ref x9]), (x2, iA E 21 (papO T)), (x3, iA E 50 (nowO f))]) := by
  refine M.ofG (cc := cX12_so) (maxL := 9) (ret := (some .int)) (lv := [(0, .ref m0), (1, .int what)]) (own := RX12) (by decide) rfl rfl (Nat.le_of_ble_eq_true rfl) rfl ?_
  intro K C X _
  have i12 : ∀ w ∈ wsX120, w ∈ wsX12_so := by decide +kernel
  refine g_iload_n C dX12_so_0 rfl 1 rfl ?_
  refine g_i2l C dX12_so_1 ?_
  refine g_lconst C 0 dX12_so_2 rfl ?_
  refine g_lconst C 1 dX12_so_3 rfl ?_
  refine g_callS C (rest := []) (n := 3) (kX12_in_zo l E what ) gX12_so_X12_in rfl ⟨rfl, rfl⟩ (by decide) (Nat.le_of_ble_eq_true rfl) rfl (by decide +kernel) rfl dX12_so_4 [] [0, 1, 2] rfl rfl ?_
  refine g_is1 (ws2 := [(m0, oB 12 [.ref x0, .int (nI n), .int (nI Q.1), .int (nI Q.2.2.1), .int Q.2.1, .int Q.2.2.2, .ref x1, .ref x2, .ref x3, .ref x4, .int (nI und), .ref x5, .ref x6, .int (nI nt), .ref x7, .ref x8, .long tr, .ref x9]), (x2, iA E 21 (papO T)), (x3, iA E 50 (nowO f))]) (st2 := [.int (bI (zo what))]) [0, 1, 2] rfl rfl rfl ?_
  refine g_if_neB C 12 dX12_so_7 (by decide) (fun cq1 => ?_) (fun cq1 => ?_)
  · refine g_iconst C (nI 0) dX12_so_12 (by decide) ?_
    refine g_istore_n C (lv' := [(2, .int (nI 0)), (0, .ref m0), (1, .int what)]) dX12_so_13 rfl (by decide) rfl ?_
    refine g_iconst C ((-1)) dX12_so_14 (by decide) ?_
    refine g_istore_n C (lv' := [(3, .int (-1)), (2, .int (nI 0)), (0, .ref m0), (1, .int what)]) dX12_so_15 rfl (by decide) rfl ?_
    refine g_iconst C (nI 0) dX12_so_16 (by decide) ?_
    refine g_istore C (lv' := [(4, .int (nI 0)), (3, .int (-1)), (2, .int (nI 0)), (0, .ref m0), (1, .int what)]) dX12_so_17 (by decide) rfl ?_
    have L19 : ∀ (zz k : Nat) (a : Int32) (b : Int32), k + zz = 128 + 1 → k ≤ 128 → (a = (srS T.2.2.2.2 f k).1) → (b = (srS T.2.2.2.2 f k).2) → G K 0 0 19 [(0, .ref m0), (1, .int what), (2, .int a), (3, .int b), (4, .int (nI k))] [] [(m0, oB 12 [.ref x0, .int (nI n), .int (nI Q.1), .int (nI Q.2.2.1), .int Q.2.1, .int Q.2.2.2, .ref x1, .ref x2, .ref x3, .ref x4, .int (nI und), .ref x5, .ref x6, .int (nI nt), .ref x7, .ref x8, .long tr, .ref x9]), (x2, iA E 21 (papO T)), (x3, iA E 50 (nowO f))] := by
      intro zz
      induction zz with
      | zero => intro k a b hL19 gL19; exfalso; omega
      | succ zz ihL19 =>
        intro k a b hL19 gL19 ha hb
        refine g_iload C dX12_so_19 4 rfl ?_
        refine g_sipush C (nI 128) dX12_so_21 (by decide) ?_
        refine g_icmp_geN C 174 dX12_so_24 (by decide) (by omega) (by omega) (fun cq2 => ?_) (fun cq2 => ?_)
        · have hk : k = 128 := by omega
          refine g_iload_n C dX12_so_174 rfl 1 rfl ?_
          refine g_if_ne C 182 dX12_so_175 (by decide) (fun cq3 => ?_) (fun cq3 => ?_)
          · refine g_iload_n C dX12_so_182 rfl 3 rfl ?_
            exact g_iret C X dX12_so_183 (⟨by unfold sooS; rw [if_pos cq1, ← srS_so T.2.2.2.2 f 127, show 127 + 1 = k by omega, ← ha, ← hb]; first | (rw [if_neg cq3]; done) | (rw [if_pos cq3]; done), rfl⟩)
          · refine g_iload_n C dX12_so_178 rfl 2 rfl ?_
            refine g_goto C 183 dX12_so_179 (by decide) ?_
            exact g_iret C X dX12_so_183 (⟨by unfold sooS; rw [if_pos cq1, ← srS_so T.2.2.2.2 f 127, show 127 + 1 = k by omega, ← ha, ← hb]; first | (rw [if_neg cq3]; done) | (rw [if_pos cq3]; done), rfl⟩)
        · refine g_iconst C (nI 0) dX12_so_27 (by decide) ?_
          refine g_istore C (lv' := [(5, .int (nI 0)), (0, .ref m0), (1, .int what), (2, .int a), (3, .int b), (4, .int (nI k))]) dX12_so_28 (by decide) rfl ?_
          refine g_iconst C (nI 0) dX12_so_30 (by decide) ?_
          refine g_istore C (lv' := [(6, .int (nI 0)), (5, .int (nI 0)), (0, .ref m0), (1, .int what), (2, .int a), (3, .int b), (4, .int (nI k))]) dX12_so_31 (by decide) rfl ?_
          refine g_iconst C (nI 0) dX12_so_33 (by decide) ?_
          refine g_istore C (lv' := [(7, .int (nI 0)), (6, .int (nI 0)), (5, .int (nI 0)), (0, .ref m0), (1, .int what), (2, .int a), (3, .int b), (4, .int (nI k))]) dX12_so_34 (by decide) rfl ?_
          have L36 : ∀ (zz k2 : Nat) (e : Int32) (s : Int32), k2 + zz = 7 + 1 → k2 ≤ 7 → (e = knT T.2.2.2.2 (nI k) k2) → (s = cS f T.2.1 (nI k) k2) → G K 0 0 36 [(0, .ref m0), (1, .int what), (2, .int a), (3, .int b), (4, .int (nI k)), (5, .int e), (6, .int s), (7, .int (nI k2))] [] [(m0, oB 12 [.ref x0, .int (nI n), .int (nI Q.1), .int (nI Q.2.2.1), .int Q.2.1, .int Q.2.2.2, .ref x1, .ref x2, .ref x3, .ref x4, .int (nI und), .ref x5, .ref x6, .int (nI nt), .ref x7, .ref x8, .long tr, .ref x9]), (x2, iA E 21 (papO T)), (x3, iA E 50 (nowO f))] := by
            intro zz
            induction zz with
            | zero => intro k2 e s hL36 gL36; exfalso; omega
            | succ zz ihL36 =>
              intro k2 e s hL36 gL36 he hs2
              refine g_iload C dX12_so_36 7 rfl ?_
              refine g_bipush C (nI 7) dX12_so_38 (by decide) ?_
              refine g_icmp_geN C 123 dX12_so_40 (by decide) (by omega) (by omega) (fun cq4 => ?_) (fun cq4 => ?_)
              · have hek : e = knT T.2.2.2.2 (nI k) 7 := by rw [he, show k2 = 7 by omega]
                have hsk : s = tiSet f (nI k) 6 := by rw [hs2, show k2 = 7 by omega, tiSet_6 hS hm]
                refine g_iload C dX12_so_123 5 rfl ?_
                refine g_iload C dX12_so_125 4 rfl ?_
                refine g_iand C dX12_so_127 ?_
                refine g_if_ne C 141 dX12_so_128 (by decide) (fun cq5 => ?_) (fun cq5 => ?_)
                · have hz9 : ¬ clW T.2.2.2.2 (nI k) 7 / nI 2 = 0 := fun w => cq5 (by rw [hek]; exact (cl_free hT _).mpr w)
                  refine g_iconst C (nI 0) dX12_so_141 (by decide) ?_
                  refine g_istore C (lv' := [(7, .int (nI 0)), (0, .ref m0), (1, .int what), (2, .int a), (3, .int b), (4, .int (nI k)), (5, .int e), (6, .int s)]) dX12_so_142 (by decide) rfl ?_
                  refine g_iload C dX12_so_144 0 rfl ?_
                  refine g_if_eqN C 154 dX12_so_146 (by decide) (by omega) (fun cq6 => ?_) (fun cq6 => ?_)
                  · refine g_iload_n C dX12_so_154 rfl 3 rfl ?_
                    refine g_istore_n C (lv' := [(2, .int a), (7, .int (nI 0)), (0, .ref m0), (1, .int what), (3, .int b), (4, .int (nI k)), (5, .int e), (6, .int s)]) dX12_so_155 rfl (by decide) rfl ?_
                    refine g_iload C dX12_so_156 1 rfl ?_
                    refine g_if_eqN C 166 dX12_so_158 (by decide) (by omega) (fun cq7 => ?_) (fun cq7 => ?_)
                    · refine g_iload_n C dX12_so_166 rfl 4 rfl ?_
                      refine g_istore_n C (lv' := [(3, .int b), (2, .int a), (7, .int (nI 0)), (0, .ref m0), (1, .int what), (4, .int (nI k)), (5, .int e), (6, .int s)]) dX12_so_167 rfl (by decide) rfl ?_
                      refine g_iincN C (lv' := [(4, .int (nI (k + 1))), (3, .int b), (2, .int a), (7, .int (nI 0)), (0, .ref m0), (1, .int what), (5, .int e), (6, .int s)]) dX12_so_168 5 rfl (by decide) rfl ?_
                      refine g_goto C 19 dX12_so_171 (by decide) ?_
                      refine g_sub (lv' := [(0, .ref m0), (1, .int what), (2, .int a), (3, .int b), (4, .int (nI (k + 1)))]) [4, 5, 2, 1, 0] rfl ?_
                      exact ihL19 (k + 1) a b (by omega) (by omega) (by rw [srS]; first | (rw [if_neg hz9, ← ha]; done) | (rw [if_pos hz9, ← hb, ← hsk, if_pos hle9, ← ha]; done) | (rw [if_pos hz9, ← hb, ← hsk, if_neg hle9]; done)) (by rw [srS]; first | (rw [if_neg hz9, ← hb]; done) | (rw [if_pos hz9, ← hb, ← hsk, if_pos hle9, ← hb]; done) | (rw [if_pos hz9, ← hb, ← hsk, if_neg hle9]; done))
                    · exact absurd cq7 (by decide)
                  · exact absurd cq6 (by decide)
                · have hz9 : clW T.2.2.2.2 (nI k) 7 / nI 2 = 0 := (cl_free hT _).mp (by rw [← hek]; exact cq5)
                  refine g_iload C dX12_so_131 6 rfl ?_
                  refine g_iload_n C dX12_so_133 rfl 3 rfl ?_
                  refine g_icmp_le C 141 dX12_so_134 (by decide) (fun cq8 => ?_) (fun cq8 => ?_)
                  · have hle9 := cq8
                    refine g_iconst C (nI 0) dX12_so_141 (by decide) ?_
                    refine g_istore C (lv' := [(7, .int (nI 0)), (0, .ref m0), (1, .int what), (2, .int a), (3, .int b), (4, .int (nI k)), (5, .int e), (6, .int s)]) dX12_so_142 (by decide) rfl ?_
                    refine g_iload C dX12_so_144 0 rfl ?_
                    refine g_if_eqN C 154 dX12_so_146 (by decide) (by omega) (fun cq9 => ?_) (fun cq9 => ?_)
                    · refine g_iload_n C dX12_so_154 rfl 3 rfl ?_
                      refine g_istore_n C (lv' := [(2, .int a), (7, .int (nI 0)), (0, .ref m0), (1, .int what), (3, .int b), (4, .int (nI k)), (5, .int e), (6, .int s)]) dX12_so_155 rfl (by decide) rfl ?_
                      refine g_iload C dX12_so_156 1 rfl ?_
                      refine g_if_eqN C 166 dX12_so_158 (by decide) (by omega) (fun cq10 => ?_) (fun cq10 => ?_)
                      · refine g_iload_n C dX12_so_166 rfl 4 rfl ?_
                        refine g_istore_n C (lv' := [(3, .int b), (2, .int a), (7, .int (nI 0)), (0, .ref m0), (1, .int what), (4, .int (nI k)), (5, .int e), (6, .int s)]) dX12_so_167 rfl (by decide) rfl ?_
                        refine g_iincN C (lv' := [(4, .int (nI (k + 1))), (3, .int b), (2, .int a), (7, .int (nI 0)), (0, .ref m0), (1, .int what), (5, .int e), (6, .int s)]) dX12_so_168 5 rfl (by decide) rfl ?_
                        refine g_goto C 19 dX12_so_171 (by decide) ?_
                        refine g_sub (lv' := [(0, .ref m0), (1, .int what), (2, .int a), (3, .int b), (4, .int (nI (k + 1)))]) [4, 5, 2, 1, 0] rfl ?_
                        exact ihL19 (k + 1) a b (by omega) (by omega) (by rw [srS]; first | (rw [if_neg hz9, ← ha]; done) | (rw [if_pos hz9, ← hb, ← hsk, if_pos hle9, ← ha]; done) | (rw [if_pos hz9, ← hb, ← hsk, if_neg hle9]; done)) (by rw [srS]; first | (rw [if_neg hz9, ← hb]; done) | (rw [if_pos hz9, ← hb, ← hsk, if_pos hle9, ← hb]; done) | (rw [if_pos hz9, ← hb, ← hsk, if_neg hle9]; done))
                      · exact absurd cq10 (by decide)
                    · exact absurd cq9 (by decide)
                  · have hle9 := cq8
                    refine g_iconst C (nI 1) dX12_so_137 (by decide) ?_
                    refine g_goto C 142 dX12_so_138 (by decide) ?_
                    refine g_istore C (lv' := [(7, .int (nI 1)), (0, .ref m0), (1, .int what), (2, .int a), (3, .int b), (4, .int (nI k)), (5, .int e), (6, .int s)]) dX12_so_142 (by decide) rfl ?_
                    refine g_iload C dX12_so_144 0 rfl ?_
                    refine g_if_eqN C 154 dX12_so_146 (by decide) (by omega) (fun cq11 => ?_) (fun cq11 => ?_)
                    · exact absurd cq11 (by decide)
                    · refine g_iload C dX12_so_149 5 rfl ?_
                      refine g_goto C 155 dX12_so_151 (by decide) ?_
                      refine g_istore_n C (lv' := [(2, .int (nI k)), (7, .int (nI 1)), (0, .ref m0), (1, .int what), (3, .int b), (4, .int (nI k)), (5, .int e), (6, .int s)]) dX12_so_155 rfl (by decide) rfl ?_
                      refine g_iload C dX12_so_156 1 rfl ?_
                      refine g_if_eqN C 166 dX12_so_158 (by decide) (by omega) (fun cq12 => ?_) (fun cq12 => ?_)
                      · exact absurd cq12 (by decide)
                      · refine g_iload C dX12_so_161 7 rfl ?_
                        refine g_goto C 167 dX12_so_163 (by decide) ?_
                        refine g_istore_n C (lv' := [(3, .int s), (2, .int (nI k)), (7, .int (nI 1)), (0, .ref m0), (1, .int what), (4, .int (nI k)), (5, .int e), (6, .int s)]) dX12_so_167 rfl (by decide) rfl ?_
                        refine g_iincN C (lv' := [(4, .int (nI (k + 1))), (3, .int s), (2, .int (nI k)), (7, .int (nI 1)), (0, .ref m0), (1, .int what), (5, .int e), (6, .int s)]) dX12_so_168 5 rfl (by decide) rfl ?_
                        refine g_goto C 19 dX12_so_171 (by decide) ?_
                        refine g_sub (lv' := [(0, .ref m0), (1, .int what), (2, .int (nI k)), (3, .int s), (4, .int (nI (k + 1)))]) [4, 5, 2, 1, 0] rfl ?_
                        exact ihL19 (k + 1) (nI k) s (by omega) (by omega) (by rw [srS]; first | (rw [if_neg hz9, ← ha]; done) | (rw [if_pos hz9, ← hb, ← hsk, if_pos hle9, ← ha]; done) | (rw [if_pos hz9, ← hb, ← hsk, if_neg hle9]; done)) (by rw [srS]; first | (rw [if_neg hz9, ← hb]; done) | (rw [if_pos hz9, ← hb, ← hsk, if_pos hle9, ← hb]; done) | (rw [if_pos hz9, ← hb, ← hsk, if_neg hle9]; done))
              · refine g_iload C dX12_so_43 5 rfl ?_
                refine g_iload C dX12_so_45 4 rfl ?_
                refine g_iload C dX12_so_47 7 rfl ?_
                refine g_ishr C dX12_so_49 ?_
                refine g_iconst C (nI 1) dX12_so_50 (by decide) ?_
                refine g_iand C dX12_so_51 ?_
                refine g_iconst C (nI 1) dX12_so_52 (by decide) ?_
                refine g_icmp_ne C 69 dX12_so_53 (by decide) (fun cq13 => ?_) (fun cq13 => ?_)
                · have hb9 := cq13
                  refine g_iconst C (nI 0) dX12_so_69 (by decide) ?_
                  refine g_ior C dX12_so_70 ?_
                  refine g_istore C (lv' := [(5, .int (e ||| (nI 0))), (0, .ref m0), (1, .int what), (2, .int a), (3, .int b), (4, .int (nI k)), (6, .int s), (7, .int (nI k2))]) dX12_so_71 (by decide) rfl ?_
                  refine g_iconst C (nI 0) dX12_so_73 (by decide) ?_
                  refine g_istore C (lv' := [(8, .int (nI 0)), (5, .int (e ||| (nI 0))), (0, .ref m0), (1, .int what), (2, .int a), (3, .int b), (4, .int (nI k)), (6, .int s), (7, .int (nI k2))]) dX12_so_74 (by decide) rfl ?_
                  have L76 : ∀ (zz k3 : Nat) (s3 : Int32), k3 + zz = T.2.1 + 1 → k3 ≤ T.2.1 → (s3 = cS f T.2.1 (nI k) k2 + (if tb (nI k) k2 = 0 then nI 0 else coS f k2 k3)) → G K 0 0 76 [(0, .ref m0), (1, .int what), (2, .int a), (3, .int b), (4, .int (nI k)), (5, .int (e ||| (nI 0))), (6, .int s3), (7, .int (nI k2)), (8, .int (nI k3))] [] [(m0, oB 12 [.ref x0, .int (nI n), .int (nI Q.1), .int (nI Q.2.2.1), .int Q.2.1, .int Q.2.2.2, .ref x1, .ref x2, .ref x3, .ref x4, .int (nI und), .ref x5, .ref x6, .int (nI nt), .ref x7, .ref x8, .long tr, .ref x9]), (x2, iA E 21 (papO T)), (x3, iA E 50 (nowO f))] := by
                    intro zz
                    induction zz with
                    | zero => intro k3 s3 hL76 gL76; exfalso; omega
                    | succ zz ihL76 =>
                      intro k3 s3 hL76 gL76 hs3
                      refine g_iload C dX12_so_76 8 rfl ?_
                      refine g_aload_n C dX12_so_78 rfl 0 rfl ?_
                      refine g_get C i12 0 rfl rfl 7 (by decide) (List.mem_of_getElem? (i := 1) rfl) rfl rfl dX12_so_79 ?_
                      refine g_iconst C (nI 1) dX12_so_82 (by decide) ?_
                      refine g_iald C 1 rfl (by omega) (by decide) dX12_so_83 ?_
                      refine g_as (papO_1 _) ?_
                      refine g_icmp_geN C 117 dX12_so_84 (by decide) (by omega) (by omega) (fun cq14 => ?_) (fun cq14 => ?_)
                      · have hk3 : k3 = T.2.1 := by omega
                        refine g_iincN C (lv' := [(7, .int (nI (k2 + 1))), (0, .ref m0), (1, .int what), (2, .int a), (3, .int b), (4, .int (nI k)), (5, .int (e ||| (nI 0))), (6, .int s3), (8, .int (nI k3))]) dX12_so_117 7 rfl (by decide) rfl ?_
                        refine g_goto C 36 dX12_so_120 (by decide) ?_
                        refine g_sub (lv' := [(0, .ref m0), (1, .int what), (2, .int a), (3, .int b), (4, .int (nI k)), (5, .int (e ||| (nI 0))), (6, .int s3), (7, .int (nI (k2 + 1)))]) [1, 2, 3, 4, 5, 6, 7, 0] rfl ?_
                        exact ihL36 (k2 + 1) (e ||| (nI 0)) s3 (by omega) (by omega) (by rw [knT, ← he]; first | (rw [if_pos (tb_n1 hb9), orz]; done) | (rw [if_neg (tb_1 hb9)]; done)) (by rw [cS]; first | (rw [if_pos (tb_n1 hb9), hs3, if_pos (tb_n1 hb9), addz]; done) | (rw [if_neg (tb_1 hb9), hs3, if_neg (tb_1 hb9), hk3]; done))
                      · refine g_iload C dX12_so_87 4 rfl ?_
                        refine g_iload C dX12_so_89 7 rfl ?_
                        refine g_ishr C dX12_so_91 ?_
                        refine g_iconst C (nI 1) dX12_so_92 (by decide) ?_
                        refine g_iand C dX12_so_93 ?_
                        refine g_iconst C (nI 1) dX12_so_94 (by decide) ?_
                        refine g_icmp_ne C 117 dX12_so_95 (by decide) (fun cq15 => ?_) (fun cq15 => ?_)
                        · refine g_iincN C (lv' := [(7, .int (nI (k2 + 1))), (0, .ref m0), (1, .int what), (2, .int a), (3, .int b), (4, .int (nI k)), (5, .int (e ||| (nI 0))), (6, .int s3), (8, .int (nI k3))]) dX12_so_117 7 rfl (by decide) rfl ?_
                          refine g_goto C 36 dX12_so_120 (by decide) ?_
                          refine g_sub (lv' := [(0, .ref m0), (1, .int what), (2, .int a), (3, .int b), (4, .int (nI k)), (5, .int (e ||| (nI 0))), (6, .int s3), (7, .int (nI (k2 + 1)))]) [1, 2, 3, 4, 5, 6, 7, 0] rfl ?_
                          exact ihL36 (k2 + 1) (e ||| (nI 0)) s3 (by omega) (by omega) (by rw [knT, ← he]; first | (rw [if_pos (tb_n1 hb9), orz]; done) | (rw [if_neg (tb_1 hb9)]; done)) (by rw [cS]; first | (rw [if_pos (tb_n1 hb9), hs3, if_pos (tb_n1 hb9), addz]; done) | (rw [if_neg (tb_1 hb9), hs3, if_neg (tb_1 hb9), hk3]; done))
                        · exact absurd cq15 cq13
                  refine g_sub (lv' := [(0, .ref m0), (1, .int what), (2, .int a), (3, .int b), (4, .int (nI k)), (5, .int (e ||| (nI 0))), (6, .int s), (7, .int (nI k2)), (8, .int (nI 0))]) [2, 3, 4, 5, 6, 1, 7, 8, 0] rfl ?_
                  exact L76 (T.2.1 + 1 - 0) 0 s (by omega) (by omega) (by rw [hs2]; split; exact (addz _).symm; exact (addz _).symm)
                · have hb9 := cq13
                  refine g_aload_n C dX12_so_56 rfl 0 rfl ?_
                  refine g_get C i12 0 rfl rfl 7 (by decide) (List.mem_of_getElem? (i := 1) rfl) rfl rfl dX12_so_57 ?_
                  refine g_bipush C (nI 14) dX12_so_60 (by decide) ?_
                  refine g_iload C dX12_so_62 7 rfl ?_
                  refine g_iaddN C dX12_so_64 ?_
                  refine g_iald C 1 rfl (by omega) (by decide) dX12_so_65 ?_
                  refine g_as (papO_c (by omega)) ?_
                  refine g_goto C 70 dX12_so_66 (by decide) ?_
                  refine g_ior C dX12_so_70 ?_
                  refine g_istore C (lv' := [(5, .int (e ||| (T.2.2.2.2 k2))), (0, .ref m0), (1, .int what), (2, .int a), (3, .int b), (4, .int (nI k)), (6, .int s), (7, .int (nI k2))]) dX12_so_71 (by decide) rfl ?_
                  refine g_iconst C (nI 0) dX12_so_73 (by decide) ?_
                  refine g_istore C (lv' := [(8, .int (nI 0)), (5, .int (e ||| (T.2.2.2.2 k2))), (0, .ref m0), (1, .int what), (2, .int a), (3, .int b), (4, .int (nI k)), (6, .int s), (7, .int (nI k2))]) dX12_so_74 (by decide) rfl ?_
                  have L76x : ∀ (zz k3 : Nat) (s3 : Int32), k3 + zz = T.2.1 + 1 → k3 ≤ T.2.1 → (s3 = cS f T.2.1 (nI k) k2 + (if tb (nI k) k2 = 0 then nI 0 else coS f k2 k3)) → G K 0 0 76 [(0, .ref m0), (1, .int what), (2, .int a), (3, .int b), (4, .int (nI k)), (5, .int (e ||| (T.2.2.2.2 k2))), (6, .int s3), (7, .int (nI k2)), (8, .int (nI k3))] [] [(m0, oB 12 [.ref x0, .int (nI n), .int (nI Q.1), .int (nI Q.2.2.1), .int Q.2.1, .int Q.2.2.2, .ref x1, .ref x2, .ref x3, .ref x4, .int (nI und), .ref x5, .ref x6, .int (nI nt), .ref x7, .ref x8, .long tr, .ref x9]), (x2, iA E 21 (papO T)), (x3, iA E 50 (nowO f))] := by
                    intro zz
                    induction zz with
                    | zero => intro k3 s3 hL76x gL76x; exfalso; omega
                    | succ zz ihL76x =>
                      intro k3 s3 hL76x gL76x hs3
                      refine g_iload C dX12_so_76 8 rfl ?_
                      refine g_aload_n C dX12_so_78 rfl 0 rfl ?_
                      refine g_get C i12 0 rfl rfl 7 (by decide) (List.mem_of_getElem? (i := 1) rfl) rfl rfl dX12_so_79 ?_
                      refine g_iconst C (nI 1) dX12_so_82 (by decide) ?_
                      refine g_iald C 1 rfl (by omega) (by decide) dX12_so_83 ?_
                      refine g_as (papO_1 _) ?_
                      refine g_icmp_geN C 117 dX12_so_84 (by decide) (by omega) (by omega) (fun cq16 => ?_) (fun cq16 => ?_)
                      · have hk3 : k3 = T.2.1 := by omega
                        refine g_iincN C (lv' := [(7, .int (nI (k2 + 1))), (0, .ref m0), (1, .int what), (2, .int a), (3, .int b), (4, .int (nI k)), (5, .int (e ||| (T.2.2.2.2 k2))), (6, .int s3), (8, .int (nI k3))]) dX12_so_117 7 rfl (by decide) rfl ?_
                        refine g_goto C 36 dX12_so_120 (by decide) ?_
                        refine g_sub (lv' := [(0, .ref m0), (1, .int what), (2, .int a), (3, .int b), (4, .int (nI k)), (5, .int (e ||| (T.2.2.2.2 k2))), (6, .int s3), (7, .int (nI (k2 + 1)))]) [1, 2, 3, 4, 5, 6, 7, 0] rfl ?_
                        exact ihL36 (k2 + 1) (e ||| (T.2.2.2.2 k2)) s3 (by omega) (by omega) (by rw [knT, ← he]; first | (rw [if_pos (tb_n1 hb9), orz]; done) | (rw [if_neg (tb_1 hb9)]; done)) (by rw [cS]; first | (rw [if_pos (tb_n1 hb9), hs3, if_pos (tb_n1 hb9), addz]; done) | (rw [if_neg (tb_1 hb9), hs3, if_neg (tb_1 hb9), hk3]; done))
                      · refine g_iload C dX12_so_87 4 rfl ?_
                        refine g_iload C dX12_so_89 7 rfl ?_
                        refine g_ishr C dX12_so_91 ?_
                        refine g_iconst C (nI 1) dX12_so_92 (by decide) ?_
                        refine g_iand C dX12_so_93 ?_
                        refine g_iconst C (nI 1) dX12_so_94 (by decide) ?_
                        refine g_icmp_ne C 117 dX12_so_95 (by decide) (fun cq17 => ?_) (fun cq17 => ?_)
                        · exact absurd cq13 cq17
                        · refine g_iload C dX12_so_98 6 rfl ?_
                          refine g_aload_n C dX12_so_100 rfl 0 rfl ?_
                          refine g_iload C dX12_so_101 8 rfl ?_
                          refine g_iload C dX12_so_103 7 rfl ?_
                          refine g_callV C (rest := [.int s3]) (n := 2) (kX12_often l E m0 x0 x1 x2 x3 x4 x5 x6 x7 x8 x9 n und nt tr Q f k3 k2 (by omega) (by omega)) gX12_so_X12_often rfl ⟨rfl, rfl⟩ (by decide) (Nat.le_of_ble_eq_true rfl) rfl (by decide +kernel) rfl dX12_so_105 0 rfl rfl [0, 2] [1] rfl rfl ?_
                          refine g_is1 (ws2 := [(m0, oB 12 [.ref x0, .int (nI n), .int (nI Q.1), .int (nI Q.2.2.1), .int Q.2.1, .int Q.2.2.2, .ref x1, .ref x2, .ref x3, .ref x4, .int (nI und), .ref x5, .ref x6, .int (nI nt), .ref x7, .ref x8, .long tr, .ref x9]), (x2, iA E 21 (papO T)), (x3, iA E 50 (nowO f))]) (st2 := [.int (f (k3 * 7 + k2)), .int s3]) [1, 0, 2] rfl rfl rfl ?_
                          refine g_iadd C dX12_so_108 ?_
                          refine g_istore C (lv' := [(6, .int (s3 + (f (k3 * 7 + k2)))), (0, .ref m0), (1, .int what), (2, .int a), (3, .int b), (4, .int (nI k)), (5, .int (e ||| (T.2.2.2.2 k2))), (7, .int (nI k2)), (8, .int (nI k3))]) dX12_so_109 (by decide) rfl ?_
                          refine g_iincN C (lv' := [(8, .int (nI (k3 + 1))), (6, .int (s3 + (f (k3 * 7 + k2)))), (0, .ref m0), (1, .int what), (2, .int a), (3, .int b), (4, .int (nI k)), (5, .int (e ||| (T.2.2.2.2 k2))), (7, .int (nI k2))]) dX12_so_111 8 rfl (by decide) rfl ?_
                          refine g_goto C 76 dX12_so_114 (by decide) ?_
                          refine g_sub (lv' := [(0, .ref m0), (1, .int what), (2, .int a), (3, .int b), (4, .int (nI k)), (5, .int (e ||| (T.2.2.2.2 k2))), (6, .int (s3 + (f (k3 * 7 + k2)))), (7, .int (nI k2)), (8, .int (nI (k3 + 1)))]) [2, 3, 4, 5, 6, 7, 1, 8, 0] rfl ?_
                          exact ihL76x (k3 + 1) (s3 + (f (k3 * 7 + k2))) (by omega) (by omega) (by rw [hs3]; first | (rw [if_pos (tb_n1 hb9), if_pos (tb_n1 hb9)]; done) | (rw [if_neg (tb_1 hb9), if_neg (tb_1 hb9), coS, Int32.add_assoc]; done))
                  refine g_sub (lv' := [(0, .ref m0), (1, .int what), (2, .int a), (3, .int b), (4, .int (nI k)), (5, .int (e ||| (T.2.2.2.2 k2))), (6, .int s), (7, .int (nI k2)), (8, .int (nI 0))]) [2, 3, 4, 5, 6, 1, 7, 8, 0] rfl ?_
                  exact L76x (T.2.1 + 1 - 0) 0 s (by omega) (by omega) (by rw [hs2]; split; exact (addz _).symm; exact (addz _).symm)
          refine g_sub (lv' := [(0, .ref m0), (1, .int what), (2, .int a), (3, .int b), (4, .int (nI k)), (5, .int (nI 0)), (6, .int (nI 0)), (7, .int (nI 0))]) [3, 4, 5, 6, 7, 2, 1, 0] rfl ?_
          exact L36 (7 + 1 - 0) 0 (nI 0) (nI 0) (by omega) (by omega) (by first | rfl | omega | (simp []; done)) (by first | rfl | omega | (simp []; done))
    refine g_sub (lv' := [(0, .ref m0), (1, .int what), (2, .int (nI 0)), (3, .int (-1)), (4, .int (nI 0))]) [3, 4, 2, 1, 0] rfl ?_
    exact L19 (128 + 1 - 0) 0 (nI 0) (-1) (by omega) (by omega) (by first | rfl | omega | (simp []; done)) (by first | rfl | omega | (simp []; done))
  · refine g_iconst C ((-1)) dX12_so_10 (by decide) ?_
    exact g_iret C X dX12_so_11 (⟨by unfold sooS; rw [if_neg cq1], rfl⟩)
