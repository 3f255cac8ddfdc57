/-! the court's text, read by both sides -/
def TR (R Q : RS) : Prop := R.1 = Q.1 ∧ R.2.2.1 = Q.2.2.1 ∧ ((R.2.1 = nI 0 ∧ Q.2.1 = nI 0) ∨ (R.2.1 = nI 1 ∧ Q.2.1 = nI 2 ∧ R.2.2.2 = Q.2.2.2) ∨ (R.2.1 = nI 2 ∧ Q.2.1 = nI 4) ∨ (Q.2.1 = nI 1 ∧ Q.2.2.2 = R.2.1 ∧ (R.2.1 = nI 113 ∨ R.2.1 = nI 112 ∨ R.2.1 = nI 120)) ∨ (R.2.1 = nI 59 ∧ Q.2.1 = nI 3))
theorem adv_rdv {tx : Nat → Int32} {n : Nat} {R Q : RS} (h : R.1 = Q.1) : TR (adv tx n R) (rdv tx n Q) := by
  obtain ⟨w, hw⟩ : ∃ w, skp tx (n - R.1) R.1 = w := ⟨_, rfl⟩
  have hw2 : skp tx (n - Q.1) Q.1 = w := by rw [← h]; exact hw
  by_cases h2 : w < n
  · by_cases h3 : dig (tx w)
    · rw [adv_num hw h2 h3, rdv_num hw2 h2 h3]
      refine ⟨rfl, rfl, ?_⟩
      show (numT tx w _ = nI 0 ∧ numR tx w _ = nI 0) ∨ (numT tx w _ = nI 1 ∧ numR tx w _ = nI 2 ∧ _ = _) ∨ (numT tx w _ = nI 2 ∧ numR tx w _ = nI 4) ∨ _
      unfold numT numR
      split
      · exact Or.inr (Or.inr (Or.inl ⟨rfl, rfl⟩))
      · exact Or.inr (Or.inl ⟨rfl, rfl, rfl⟩)
    · rw [adv_tok hw h2 h3, rdv_tok hw2 h2 h3]
      refine ⟨rfl, rfl, ?_⟩
      show (tokOf (tx w) = nI 0 ∧ tokR (tx w) = nI 0) ∨ (tokOf (tx w) = nI 1 ∧ tokR (tx w) = nI 2 ∧ _ = _) ∨ (tokOf (tx w) = nI 2 ∧ tokR (tx w) = nI 4) ∨ (tokR (tx w) = nI 1 ∧ tx w = tokOf (tx w) ∧ (tokOf (tx w) = nI 113 ∨ tokOf (tx w) = nI 112 ∨ tokOf (tx w) = nI 120)) ∨ (tokOf (tx w) = nI 59 ∧ tokR (tx w) = nI 3)
      unfold tokOf tokR
      by_cases c1 : tx w = nI 113 ∨ tx w = nI 112 ∨ tx w = nI 120
      · rw [if_pos (c1.elim Or.inl (fun z => z.elim (fun z => Or.inr (Or.inl z)) (fun z => Or.inr (Or.inr (Or.inl z))))), if_pos c1]
        exact Or.inr (Or.inr (Or.inr (Or.inl ⟨rfl, rfl, c1⟩)))
      · rw [if_neg c1]
        by_cases c2 : tx w = nI 59
        · rw [if_pos (Or.inr (Or.inr (Or.inr c2))), if_pos c2]
          exact Or.inr (Or.inr (Or.inr (Or.inr ⟨c2, rfl⟩)))
        · rw [if_neg (fun z => z.elim (fun z => c1 (Or.inl z)) (fun z => z.elim (fun z => c1 (Or.inr (Or.inl z))) (fun z => z.elim (fun z => c1 (Or.inr (Or.inr z))) c2))), if_neg c2]
          exact Or.inr (Or.inr (Or.inl ⟨rfl, rfl⟩))
  · rw [adv_end hw h2, rdv_end hw2 h2]
    exact ⟨rfl, rfl, Or.inl ⟨rfl, rfl⟩⟩
theorem TR_num {R Q : RS} (h : TR R Q) (lo hi : Nat) : (nOk R lo hi ↔ nOk2 Q lo hi) ∧ (nOk R lo hi → R.2.2.2 = Q.2.2.2) := by
  unfold nOk nOk2
  obtain ⟨-, -, h | h | h | h | h⟩ := h
  · rw [h.1, h.2]
    exact ⟨⟨fun z => absurd z.1 (by decide), fun z => absurd z.1 (by decide)⟩, fun z => absurd z.1 (by decide)⟩
  · rw [h.1, h.2.1, h.2.2]
    exact ⟨⟨fun z => ⟨rfl, z.2⟩, fun z => ⟨rfl, z.2⟩⟩, fun _ => rfl⟩
  · rw [h.1, h.2]
    exact ⟨⟨fun z => absurd z.1 (by decide), fun z => absurd z.1 (by decide)⟩, fun z => absurd z.1 (by decide)⟩
  · have e : ¬ R.2.1 = nI 1 := by rcases h.2.2 with e | e | e <;> (rw [e]; decide)
    rw [h.1]
    exact ⟨⟨fun z => absurd z.1 e, fun z => absurd z.1 (by decide)⟩, fun z => absurd z.1 e⟩
  · rw [h.1, h.2]
    exact ⟨⟨fun z => absurd z.1 (by decide), fun z => absurd z.1 (by decide)⟩, fun z => absurd z.1 (by decide)⟩
theorem TR_end {R Q : RS} (h : TR R Q) : R.2.1 = nI 59 ↔ Q.2.1 = nI 3 := by
  obtain ⟨-, -, h | h | h | h | h⟩ := h
  · rw [h.1, h.2]; exact ⟨fun z => absurd z (by decide), fun z => absurd z (by decide)⟩
  · rw [h.1, h.2.1]; exact ⟨fun z => absurd z (by decide), fun z => absurd z (by decide)⟩
  · rw [h.1, h.2]; exact ⟨fun z => absurd z (by decide), fun z => absurd z (by decide)⟩
  · have e : ¬ R.2.1 = nI 59 := by rcases h.2.2 with e | e | e <;> (rw [e]; decide)
    rw [h.1]; exact ⟨fun z => absurd z e, fun z => absurd z (by decide)⟩
  · rw [h.1, h.2]; exact ⟨fun _ => rfl, fun _ => rfl⟩
theorem TR_0 {R Q : RS} (h : TR R Q) : R.2.1 = 0 ↔ Q.2.1 = 0 := by
  obtain ⟨-, -, h | h | h | h | h⟩ := h
  · rw [h.1, h.2]
  · rw [h.1, h.2.1]; exact ⟨fun z => absurd z (by decide), fun z => absurd z (by decide)⟩
  · rw [h.1, h.2]; exact ⟨fun z => absurd z (by decide), fun z => absurd z (by decide)⟩
  · have e : ¬ R.2.1 = 0 := by rcases h.2.2 with e | e | e <;> (rw [e]; decide)
    rw [h.1]; exact ⟨fun z => absurd z e, fun z => absurd z (by decide)⟩
  · rw [h.1, h.2]; exact ⟨fun z => absurd z (by decide), fun z => absurd z (by decide)⟩
def PR (T : TS) (rd : Nat → Int32) : Prop := ∀ k, k < 21 → rd k = papO T k
theorem tb_eqb {x y : Int32} {k j : Nat} (hk : k < 31) (hj : j < 31) (h : bt x k = bt y j) : tb x k = tb y j := by
  cases hb : bt y j with
  | false =>
    rw [hb] at h
    rw [(tb_bt hk).mpr h, (tb_bt hj).mpr hb]
  | true =>
    rw [hb] at h
    have a := (tb_ne hk).mpr h
    have b := (tb_ne hj).mpr hb
    rcases tb01 x k with c | c
    · exact absurd c a
    · rcases tb01 y j with d | d
      · exact absurd d b
      · rw [c, d]
theorem tb_beq {x y : Int32} {k j : Nat} (hk : k < 31) (hj : j < 31) (h : tb x k = tb y j) : bt x k = bt y j := by
  cases hb : bt y j with
  | false => exact (tb_bt hk).mp (h.trans ((tb_bt hj).mpr hb))
  | true => exact (tb_ne hk).mp (fun z => (tb_ne hj).mpr hb (h.symm.trans z))
theorem clA_at {cl : Nat → Int32} {a b : Nat} (hab : a ≠ b) {x y : Nat} (hy : y < 32) : bt (clA cl a b x) y = (bt (cl x) y || (decide (x = a ∧ y = b) || decide (x = b ∧ y = a))) := by
  unfold clA
  by_cases c1 : x = b
  · subst c1
    rw [pk_us, pk_un (Ne.symm hab), b_or, b_p2 hy]
    have e1 : decide (x = a ∧ y = x) = false := decide_eq_false (fun z => hab z.1.symm)
    have e2 : decide (x = x ∧ y = a) = decide (y = a) := by rw [decide_eq_decide]; exact ⟨fun z => z.2, fun z => ⟨rfl, z⟩⟩
    rw [e1, e2, Bool.false_or]
  · rw [pk_un c1]
    have e2 : decide (x = b ∧ y = a) = false := decide_eq_false (fun z => c1 z.1)
    by_cases c2 : x = a
    · subst c2
      rw [pk_us, b_or, b_p2 hy]
      have e1 : decide (x = x ∧ y = b) = decide (y = b) := by rw [decide_eq_decide]; exact ⟨fun z => z.2, fun z => ⟨rfl, z⟩⟩
      rw [e1, e2, Bool.or_false]
    · rw [pk_un c2]
      have e1 : decide (x = a ∧ y = b) = false := decide_eq_false (fun z => c2 z.1)
      rw [e1, e2, Bool.or_false, Bool.or_false]
theorem s7_2p {b : Nat} (hb : b < 7) : s7 (nI (2 ^ b)) := ⟨2 ^ b, Nat.pow_lt_pow_right (a := 2) (by decide) hb, rfl⟩
theorem TI_cl {T : TS} {a b : Nat} (hT : TI T) (ha : a < 7) (hb : b < 7) (hab : a ≠ b) : TI (T.1, T.2.1, T.2.2.1, T.2.2.2.1, clA T.2.2.2.2 a b) := by
  obtain ⟨h1, h2, h3, h4, h5, h6, h7, h8⟩ := hT
  refine ⟨h1, h2, h3, h4, h5, fun t ht => ?_, fun x y hx hy => ?_, fun x hx => ?_⟩
  · show s7 (clA T.2.2.2.2 a b t)
    unfold clA
    by_cases c1 : t = b
    · subst c1
      rw [pk_us, pk_un (Ne.symm hab)]
      exact s7_or (h6 t ht) (s7_2p ha)
    · rw [pk_un c1]
      by_cases c2 : t = a
      · subst c2; rw [pk_us]; exact s7_or (h6 t ht) (s7_2p hb)
      · rw [pk_un c2]; exact h6 t ht
  · show tb (clA T.2.2.2.2 a b x) y = tb (clA T.2.2.2.2 a b y) x
    refine tb_eqb (by omega) (by omega) ?_
    rw [clA_at hab (by omega), clA_at hab (by omega), tb_beq (by omega) (by omega) (h7 x y hx hy)]
    have e1 : decide (x = a ∧ y = b) = decide (y = b ∧ x = a) := by rw [decide_eq_decide]; exact ⟨fun z => ⟨z.2, z.1⟩, fun z => ⟨z.2, z.1⟩⟩
    have e2 : decide (x = b ∧ y = a) = decide (y = a ∧ x = b) := by rw [decide_eq_decide]; exact ⟨fun z => ⟨z.2, z.1⟩, fun z => ⟨z.2, z.1⟩⟩
    rw [e1, e2, Bool.or_comm (decide (y = b ∧ x = a))]
  · show tb (clA T.2.2.2.2 a b x) x = 0
    rw [tb_bt (by omega), clA_at hab (by omega), (tb_bt (by omega)).mp (h8 x hx)]
    have e1 : decide (x = a ∧ x = b) = false := decide_eq_false (fun z => hab (z.1.symm.trans z.2))
    have e2 : decide (x = b ∧ x = a) = false := decide_eq_false (fun z => hab (z.2.symm.trans z.1))
    rw [e1, e2]; rfl
/-- what an item leaves on both sides -/
def IR (n : Nat) (a : Int32 × RS × TS) (b : MS) : Prop := a.2.1.1 ≤ n ∧ a.2.1.2.2.1 ≤ a.2.1.1 ∧ TR a.2.1 b.2.1 ∧ (a.1 = 0 ↔ b.1 = 0) ∧ (¬ a.1 = 0 → PR a.2.2 b.2.2 ∧ TI a.2.2)
theorem IR_no {n : Nat} {R Q : RS} {T : TS} {rd : Nat → Int32} (h1 : R.1 ≤ n) (h2 : R.2.2.1 ≤ R.1) (h3 : TR R Q) : IR n (nI 0, R, T) (nI 0, Q, rd) := ⟨h1, h2, h3, Iff.rfl, fun z => absurd rfl z⟩
theorem bI_iff0 {c d : Prop} [Decidable c] [Decidable d] (h : c ↔ d) : bI c = 0 ↔ bI d = 0 := by rw [bI_0, bI_0, h]
theorem adv2 {tx : Nat → Int32} {n : Nat} {R : RS} (h : R.1 ≤ n) : (adv tx n R).1 ≤ n ∧ (adv tx n R).2.2.1 ≤ (adv tx n R).1 := ⟨(adv_le h).1, (adv_le h).2.2⟩
theorem PR_pl {T : TS} {rd : Nat → Int32} {x : Int32} {m : Nat} (h : PR T rd) (hx : x = nI m) : PR (T.1, m, T.2.2) (upd rd 1 x) := by
  intro k hk
  by_cases c : k = 1
  · subst c; rw [pk_us]; exact hx
  · rw [pk_un c, h k hk]
    unfold papO
    by_cases c0 : k = 0
    · rw [if_pos c0, if_pos c0]
    · rw [if_neg c0, if_neg c, if_neg c0, if_neg c]
theorem PR_np {T : TS} {rd : Nat → Int32} (h : PR T rd) (h6 : T.1 ≤ 6) : npR rd = T.1 := by
  show (rd 0).toNatClampNeg = T.1
  rw [h 0 (by decide), papO_0, nI_clamp (by omega)]
theorem PR_per {T : TS} {rd : Nat → Int32} {x y : Int32} (h : PR T rd) (h6 : T.1 < 6) : PR (T.1 + 1, T.2.1, upd T.2.2.1 T.1 x, upd T.2.2.2.1 T.1 y, T.2.2.2.2) (perR rd x y) := by
  have hnp := PR_np h (by omega)
  intro k hk
  unfold perR
  rw [hnp]
  by_cases c0 : k = 0
  · subst c0
    rw [pk_us, pk_un (by omega), pk_un (by omega), h 0 (by decide), papO_0, nI_add]
    rfl
  · rw [pk_un c0]
    have pn : ∀ U : TS, papO U k = if k = 1 then nI U.2.1 else if k < 14 then (if (k - 2) / 2 < U.1 then (if (k - 2) % 2 = 0 then U.2.2.1 ((k - 2) / 2) else U.2.2.2.1 ((k - 2) / 2)) else nI 0) else if k < 21 then U.2.2.2.2 (k - 14) else nI 0 := fun U => by unfold papO; rw [if_neg c0]
    have hk0 := h k hk
    rw [pn] at hk0 ⊢
    by_cases c1 : k = 1
    · rw [pk_un (by omega), pk_un (by omega), hk0, if_pos c1, if_pos c1]
    · rw [if_neg c1] at hk0 ⊢
      by_cases c14 : k < 14
      · rw [if_pos c14] at hk0 ⊢
        show _ = if (k - 2) / 2 < T.1 + 1 then (if (k - 2) % 2 = 0 then upd T.2.2.1 T.1 x ((k - 2) / 2) else upd T.2.2.2.1 T.1 y ((k - 2) / 2)) else nI 0
        by_cases d1 : k = 2 + 2 * T.1 + 1
        · rw [d1, pk_us, if_pos (by omega), if_neg (by omega), show (2 + 2 * T.1 + 1 - 2) / 2 = T.1 by omega, pk_us]
        · rw [pk_un d1]
          by_cases d2 : k = 2 + 2 * T.1
          · rw [d2, pk_us, if_pos (by omega), if_pos (by omega), show (2 + 2 * T.1 - 2) / 2 = T.1 by omega, pk_us]
          · rw [pk_un d2, hk0]
            by_cases d3 : (k - 2) / 2 < T.1
            · rw [if_pos d3, if_pos (show (k - 2) / 2 < T.1 + 1 by omega), pk_un (show (k - 2) / 2 ≠ T.1 by omega), pk_un (show (k - 2) / 2 ≠ T.1 by omega)]
            · rw [if_neg d3, if_neg (show ¬ (k - 2) / 2 < T.1 + 1 by omega)]
      · rw [if_neg c14] at hk0 ⊢
        rw [pk_un (by omega), pk_un (by omega), hk0]
theorem PR_cl {T : TS} {rd : Nat → Int32} {a b : Nat} (h : PR T rd) (ha : a < 7) (hb : b < 7) (hab : a ≠ b) : PR (T.1, T.2.1, T.2.2.1, T.2.2.2.1, clA T.2.2.2.2 a b) (clR rd a b) := by
  intro k hk
  unfold clR
  by_cases c14 : k < 14
  · rw [pk_un (by omega), pk_un (by omega), h k hk]
    unfold papO
    by_cases c0 : k = 0
    · rw [if_pos c0, if_pos c0]
    · rw [if_neg c0, if_neg c0]
      by_cases c1 : k = 1
      · rw [if_pos c1, if_pos c1]
      · rw [if_neg c1, if_neg c1, if_pos c14, if_pos c14]
  · obtain ⟨t, rfl⟩ : ∃ t, k = 14 + t := ⟨k - 14, by omega⟩
    rw [papO_c (by omega)]
    show _ = clA T.2.2.2.2 a b t
    have e : ∀ t, t < 7 → rd (14 + t) = T.2.2.2.2 t := fun t ht => by rw [h _ (by omega), papO_c ht]
    unfold clA
    by_cases c1 : t = b
    · subst c1
      rw [pk_us, pk_us, pk_un (by omega), pk_un (Ne.symm hab), e t hb]
    · rw [pk_un (by omega), pk_un c1]
      by_cases c2 : t = a
      · subst c2; rw [pk_us, pk_us, e t ha]
      · rw [pk_un (by omega), pk_un c2, e t (by omega)]
theorem rP_mP {tx : Nat → Int32} {n : Nat} {R Q : RS} {T : TS} {rd : Nat → Int32} (h1 : R.1 ≤ n) (h3 : R.1 = Q.1) (hP : PR T rd) (hT : TI T) : IR n (rP tx n R T) (mP tx n Q rd) := by
  have a1 := adv2 (tx := tx) h1
  have t1 := adv_rdv (tx := tx) (n := n) h3
  have a2 := adv2 (tx := tx) a1.1
  have t2 := adv_rdv (tx := tx) (n := n) t1.1
  obtain ⟨k1, k2⟩ := TR_num t1 1 6
  unfold rP mP
  by_cases c : nOk (adv tx n R) 1 6
  · rw [if_pos c, if_pos (k1.mp c)]
    refine ⟨a2.1, a2.2, t2, bI_iff0 (TR_end t2), fun _ => ?_⟩
    have hj := nOk_j (by decide) (by decide) c
    obtain ⟨g1, g2, g3, g4, g5, g6, g7, g8⟩ := hT
    exact ⟨PR_pl hP (by rw [← k2 c]; exact hj.1), g1, hj.2.1, hj.2.2, g4, g5, g6, g7, g8⟩
  · rw [if_neg c, if_neg (fun z => c (k1.mpr z))]
    exact IR_no a1.1 a1.2 t1
theorem rQ_mQ {tx : Nat → Int32} {n : Nat} {R Q : RS} {T : TS} {rd : Nat → Int32} (h1 : R.1 ≤ n) (h3 : R.1 = Q.1) (hP : PR T rd) (hT : TI T) (h6 : T.1 < 6) : IR n (rQ tx n R T) (mQ tx n Q rd) := by
  have a1 := adv2 (tx := tx) h1
  have t1 := adv_rdv (tx := tx) (n := n) h3
  have a2 := adv2 (tx := tx) a1.1
  have t2 := adv_rdv (tx := tx) (n := n) t1.1
  have a3 := adv2 (tx := tx) a2.1
  have t3 := adv_rdv (tx := tx) (n := n) t2.1
  obtain ⟨k1, k2⟩ := TR_num t1 0 127
  obtain ⟨m1, m2⟩ := TR_num t2 0 10
  unfold rQ mQ
  by_cases c : nOk (adv tx n R) 0 127
  · rw [if_pos c, if_pos (k1.mp c)]
    by_cases d : nOk (adv tx n (adv tx n R)) 0 10
    · rw [if_pos d, if_pos (m1.mp d)]
      refine ⟨a3.1, a3.2, t3, bI_iff0 (TR_end t3), fun _ => ?_⟩
      have hj := nOk_j (by decide) (by decide) c
      have hi := nOk_j (by decide) (by decide) d
      obtain ⟨g1, g2, g3, g4, g5, g6, g7, g8⟩ := hT
      refine ⟨by rw [← k2 c, ← m2 d]; exact PR_per hP h6, by show T.1 + 1 ≤ 6; omega, g2, g3, fun p hp => ?_, fun p hp => ?_, g6, g7, g8⟩
      · show s7 (upd T.2.2.1 T.1 _ p)
        by_cases e : p = T.1
        · rw [e, pk_us]; exact ⟨_, by omega, hj.1⟩
        · rw [pk_un e]; exact g4 p (by have : p < T.1 + 1 := hp; omega)
      · show ∃ t, t ≤ 10 ∧ upd T.2.2.2.1 T.1 _ p = nI t
        by_cases e : p = T.1
        · rw [e, pk_us]; exact ⟨_, hi.2.2, hi.1⟩
        · rw [pk_un e]; exact g5 p (by have : p < T.1 + 1 := hp; omega)
    · rw [if_neg d, if_neg (fun z => d (m1.mpr z))]
      exact IR_no a2.1 a2.2 t2
  · rw [if_neg c, if_neg (fun z => c (k1.mpr z))]
    exact IR_no a1.1 a1.2 t1
theorem rC_mC {tx : Nat → Int32} {n : Nat} {R Q : RS} {T : TS} {rd : Nat → Int32} (h1 : R.1 ≤ n) (h3 : R.1 = Q.1) (hP : PR T rd) (hT : TI T) : IR n (rC tx n R T) (mC tx n Q rd) := by
  have a1 := adv2 (tx := tx) h1
  have t1 := adv_rdv (tx := tx) (n := n) h3
  have a2 := adv2 (tx := tx) a1.1
  have t2 := adv_rdv (tx := tx) (n := n) t1.1
  have a3 := adv2 (tx := tx) a2.1
  have t3 := adv_rdv (tx := tx) (n := n) t2.1
  obtain ⟨k1, k2⟩ := TR_num t1 0 6
  obtain ⟨m1, m2⟩ := TR_num t2 0 6
  by_cases c : nOk (adv tx n R) 0 6
  · by_cases d : nOk (adv tx n (adv tx n R)) 0 6
    · by_cases e : (adv tx n (adv tx n R)).2.2.2 = (adv tx n R).2.2.2
      · rw [rC_n2 c (fun z => z.2 e), mC_n2 (k1.mp c) (fun z => z.2 (by rw [← k2 c, ← m2 d]; exact e))]
        exact IR_no a2.1 a2.2 t2
      · rw [rC_y c d e, mC_y (k1.mp c) (m1.mp d) (by rw [← k2 c, ← m2 d]; exact e)]
        have hj := nOk_j (by decide) (by decide) c
        have hi := nOk_j (by decide) (by decide) d
        have hne : (adv tx n R).2.2.2.toNatClampNeg ≠ (adv tx n (adv tx n R)).2.2.2.toNatClampNeg := fun z => e (by rw [hj.1, hi.1, z])
        refine ⟨a3.1, a3.2, t3, bI_iff0 (TR_end t3), fun _ => ⟨?_, TI_cl hT (by omega) (by omega) hne⟩⟩
        rw [← k2 c, ← m2 d]
        exact PR_cl hP (by omega) (by omega) hne
    · rw [rC_n2 c (fun z => d z.1), mC_n2 (k1.mp c) (fun z => d (m1.mpr z.1))]
      exact IR_no a2.1 a2.2 t2
  · rw [rC_n c, mC_n (fun z => c (k1.mpr z))]
    exact IR_no a1.1 a1.2 t1
theorem rI_mI {tx : Nat → Int32} {n i : Nat} {R Q : RS} {T : TS} {rd : Nat → Int32} (h1 : R.1 ≤ n) (h2 : R.2.2.1 ≤ R.1) (h : TR R Q) (hP : PR T rd) (hT : TI T) : IR n (rI tx n (if i = 0 then 1 else 0) R T) (mI tx n i Q rd) := by
  have hno : ∀ (c112 : ¬ R.2.1 = nI 112) (c113 : ¬ R.2.1 = nI 113) (c120 : ¬ R.2.1 = nI 120) (cq : ¬ Q.2.1 = nI 1), IR n (rI tx n (if i = 0 then 1 else 0) R T) (mI tx n i Q rd) := fun c112 c113 c120 cq => by
    unfold rI mI
    rw [if_neg c112, if_neg c113, if_neg c120, if_neg cq]
    exact IR_no h1 h2 h
  have h0 := h
  obtain ⟨e1, -, g | g | g | g | g⟩ := h0
  · exact hno (by rw [g.1]; decide) (by rw [g.1]; decide) (by rw [g.1]; decide) (by rw [g.2]; decide)
  · exact hno (by rw [g.1]; decide) (by rw [g.1]; decide) (by rw [g.1]; decide) (by rw [g.2.1]; decide)
  · exact hno (by rw [g.1]; decide) (by rw [g.1]; decide) (by rw [g.1]; decide) (by rw [g.2]; decide)
  · obtain ⟨q1, q2, g⟩ := g
    rcases g with g | g | g
    · unfold rI mI
      rw [if_neg (show ¬ R.2.1 = nI 112 by rw [g]; decide), if_pos g, if_pos q1, if_pos (show Q.2.2.2 = nI 113 by rw [q2, g])]
      by_cases c : i = 0
      · rw [if_pos c, if_neg (show ¬ (1 : Nat) = 0 by decide), if_neg (show ¬ 0 < i by omega)]
        exact rP_mP h1 e1 hP hT
      · rw [if_neg c, if_pos rfl, if_pos (show 0 < i by omega)]
        exact IR_no h1 h2 h
    · unfold rI mI
      rw [if_pos g, if_pos q1, if_neg (show ¬ Q.2.2.2 = nI 113 by rw [q2, g]; decide), if_neg (show ¬ Q.2.2.2 = nI 120 by rw [q2, g]; decide), PR_np hP hT.1]
      by_cases c : T.1 < 6
      · rw [if_pos c, if_neg (show ¬ T.1 = 6 by omega)]
        exact rQ_mQ h1 e1 hP hT c
      · rw [if_neg c, if_pos (show T.1 = 6 by have := hT.1; omega)]
        exact IR_no h1 h2 h
    · unfold rI mI
      rw [if_neg (show ¬ R.2.1 = nI 112 by rw [g]; decide), if_neg (show ¬ R.2.1 = nI 113 by rw [g]; decide), if_pos g, if_pos q1, if_neg (show ¬ Q.2.2.2 = nI 113 by rw [q2, g]; decide), if_pos (show Q.2.2.2 = nI 120 by rw [q2, g])]
      exact rC_mC h1 e1 hP hT
  · exact hno (by rw [g.1]; decide) (by rw [g.1]; decide) (by rw [g.1]; decide) (by rw [g.2]; decide)
theorem neg10 : ∀ s, s < 201 → ((-10) : Int32) - nI s < 0 := by decide +kernel
def CR (a : Int32 × RS × TS) (b : Bool × MS) : Prop := a.1 = b.2.1 ∧ ((a.1 < 0 ∧ b.1 = false) ∨ (¬ a.1 < 0 ∧ b.1 = true ∧ PR a.2.2 b.2.2.2 ∧ TI a.2.2))
theorem rdL_mL {tx : Nat → Int32} {n : Nat} (hn : n ≤ 200) : ∀ (z i : Nat) (R Q : RS) (T : TS) (rd : Nat → Int32), i + z ≤ 201 → R.1 ≤ n → R.2.2.1 ≤ R.1 → TR R Q → PR T rd → TI T → CR (rdL tx n z i R T) (mL tx n z i Q rd)
  | 0, i, R, Q, T, rd, hi, _, _, _, hP, hT => by
    rw [rdL, mL]
    exact ⟨rfl, Or.inr ⟨nI_pos (by omega), rfl, hP, hT⟩⟩
  | z + 1, i, R, Q, T, rd, hi, h1, h2, h, hP, hT => by
    by_cases c : R.2.1 = 0
    · rw [rdL_end c, mL_end ((TR_0 h).mp c)]
      exact ⟨rfl, Or.inr ⟨nI_pos (by omega), rfl, hP, hT⟩⟩
    · have cq : ¬ Q.2.1 = 0 := fun z => c ((TR_0 h).mpr z)
      obtain ⟨g1, g2, g3, g4, g5⟩ := rI_mI (tx := tx) (i := i) h1 h2 h hP hT
      by_cases d : (rI tx n (if i = 0 then 1 else 0) R T).1 = 0
      · rw [mL_no cq (g4.mp d), rdL, if_neg c, if_pos d]
        refine ⟨?_, Or.inl ⟨neg10 _ (by omega), rfl⟩⟩
        show (-10) - nI _ = (-10) - nI _
        rw [g3.2.1]
      · rw [mL_go cq (fun z => d (g4.mpr z)), rdL, if_neg c, if_neg d]
        have a := adv2 (tx := tx) g1
        obtain ⟨p1, p2⟩ := g5 d
        exact rdL_mL hn z (i + 1) _ _ _ _ (by omega) a.1 a.2 (adv_rdv g3.1) p1 p2
theorem PR_pln (rd kn ta cl : Nat → Int32) : PR (0, 3, kn, ta, filA cl (nI 0) 7) (plnS rd) := by
  intro k hk
  unfold plnS papO
  by_cases c1 : k = 1
  · subst c1; rw [pk_us, if_neg (by decide), if_pos rfl]
  · rw [pk_un c1, filA_in hk]
    by_cases c0 : k = 0
    · rw [if_pos c0]
    · rw [if_neg c0, if_neg c1]
      by_cases c14 : k < 14
      · rw [if_pos c14, if_neg (Nat.not_lt_zero _)]
      · rw [if_neg c14, if_pos hk]
        exact (filA_in (by omega)).symm
theorem TI_pln (kn ta cl : Nat → Int32) : TI (0, 3, kn, ta, filA cl (nI 0) 7) := by
  have e : ∀ t, t < 7 → filA cl (nI 0) 7 t = nI 0 := fun t ht => filA_in ht
  refine ⟨show 0 ≤ 6 by decide, show 1 ≤ 3 by decide, show 3 ≤ 6 by decide, fun p hp => absurd hp (Nat.not_lt_zero p), fun p hp => absurd hp (Nat.not_lt_zero p), fun t ht => ?_, fun a b ha hb => ?_, fun a ha => ?_⟩
  · show s7 (filA cl (nI 0) 7 t)
    rw [e t ht]; exact s7_0
  · show tb (filA cl (nI 0) 7 a) b = tb (filA cl (nI 0) 7 b) a
    rw [e a ha, e b hb, tb_00 b hb, tb_00 a ha]
  · show tb (filA cl (nI 0) 7 a) a = 0
    rw [e a ha, tb_00 a ha]
/-- the court, read by both sides -/
theorem court_eq {tx : Nat → Int32} {n : Nat} (hn : n ≤ 200) (R Q : RS) (V : TS) (rd : Nat → Int32) : CR (rdA tx n R V) (mA tx n Q rd) := by
  have a := adv2 (tx := tx) (n := n) (R := (0, R.2.1, R.2.2.1, R.2.2.2)) (Nat.zero_le _)
  exact rdL_mL hn 201 0 _ _ _ _ (by decide) a.1 a.2 (adv_rdv rfl) (PR_pln _ _ _ _) (TI_pln _ _ _)
theorem PR_pap {T U : TS} {rd : Nat → Int32} (h : PR T rd) : cpA rd (papO U) 21 = papO T := by
  funext k
  unfold cpA
  by_cases c : k < 21
  · rw [if_pos c, h k c]
  · rw [if_neg c]
    have e : ∀ W : TS, papO W k = nI 0 := fun W => by unfold papO; rw [if_neg (by omega), if_neg (by omega), if_neg (by omega), if_neg (by omega)]
    rw [e, e]
theorem PR_pl2 {T : TS} {rd : Nat → Int32} (h : PR T rd) (h6 : T.2.1 ≤ 6) : plR rd = T.2.1 := by
  show (rd 1).toNatClampNeg = T.2.1
  rw [h 1 (by decide), papO_1, nI_clamp (by omega)]
