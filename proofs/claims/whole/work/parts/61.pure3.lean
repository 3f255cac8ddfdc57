/-! what a call does to the scene keeps the scene's bounds; the undo rows and the images of both sides -/
theorem SI_cg {T : TS} {f g : Nat → Int32} (h : ∀ k, k < 50 → f k = g k) (hS : SI T f) : SI T g := by
  obtain ⟨h1, h2, h3, h4, h5⟩ := hS
  refine ⟨fun k hk => by rw [← h k (by omega)]; exact h1 k hk, fun q t hq h6 ht => by rw [← h _ (by omega)]; exact h2 q t hq h6 ht, fun p hp => by rw [← h _ (by omega)]; exact h3 p hp, by rw [← h 48 (by decide)]; exact h4, by rw [← h 49 (by decide)]; exact h5⟩
theorem nowO_c50 {f g : Nat → Int32} (h : ∀ k, k < 50 → f k = g k) : nowO f = nowO g :=
  funext fun k => nowO_cg (fun _ => h 49 (by decide)) (fun _ => h 48 (by decide)) (fun p hp _ => h _ (by omega)) (fun i hi _ => h _ (by omega))
theorem nowO_out {f : Nat → Int32} {k : Nat} (h : 50 ≤ k) : nowO f k = nI 0 := by
  unfold nowO
  rw [if_neg (by omega), if_neg (by omega), if_neg (by omega), if_neg (by omega)]
theorem p2_le {m : Nat} (hm : m ≤ 6) : 2 ^ m ≤ 64 := Nat.pow_le_pow_right (n := 2) (by decide) hm
theorem SI_lay {T : TS} {f : Nat → Int32} {p q : Int32} (hS : SI T f) (hn : T.1 ≤ 6) (hm : T.2.1 ≤ 6) (h : layO T p q) : SI T (layF f p q) := by
  obtain ⟨h1, h2, h3, h4, h5⟩ := hS
  obtain ⟨hp, hq⟩ := h
  obtain ⟨j, hj, rfl⟩ := inR_of (by omega) hp
  have e : layF f (nI j) q = upd f (42 + j) (layV q) := by unfold layF; rw [nI_clamp (by omega)]
  rw [e]
  refine ⟨fun k hk => by rw [pk_un (by omega)]; exact h1 k hk, fun a t ha h6 ht => by rw [pk_un (by omega)]; exact h2 a t ha h6 ht, fun p2 hp2 => ?_, by rw [pk_un (by omega)]; exact h4, by rw [pk_un (by omega)]; exact h5⟩
  by_cases hc : p2 = j
  · subst hc
    rw [pk_us]
    unfold layV
    rcases hq with hq | hq
    · left; rw [if_pos hq]
    · obtain ⟨i, hi, rfl⟩ := inR_of (by omega) hq
      right
      have hne : ¬ nI i = (-1) := fun z => absurd (show nI i < 0 by rw [z]; decide) (nI_pos (by omega))
      rw [if_neg hne]
      exact ⟨hj, i, hi, rfl⟩
  · rw [pk_un (by omega)]; exact h3 p2 hp2
theorem slpA_at (f : Nat → Int32) (q : Nat) : ∀ (k i : Nat), slpA f q k i = if q * 7 ≤ i ∧ i < q * 7 + k then nI 0 else f i
  | 0, i => by rw [slpA, if_neg (by omega)]
  | k + 1, i => by
    rw [slpA]
    by_cases h : i = q * 7 + k
    · subst h; rw [pk_us, if_pos (by omega)]; decide
    · rw [pk_un h, slpA_at f q k i]
      by_cases h2 : q * 7 ≤ i ∧ i < q * 7 + k
      · rw [if_pos h2, if_pos (by omega)]
      · rw [if_neg h2, if_neg (by omega)]
theorem clr_eq : ∀ e, e < 64 → ∀ j, j < 6 → nI e &&& (nI (2 ^ j) ^^^ (-1)) = nI (e &&& (63 ^^^ 2 ^ j)) := by decide +kernel
theorem SI_slip {T : TS} {f : Nat → Int32} {j : Nat} (hS : SI T f) (hm : T.2.1 ≤ 6) (hj : j < T.2.1) : SI T (slipS f j) := by
  obtain ⟨h1, h2, h3, h4, h5⟩ := hS
  unfold slipS
  refine ⟨fun k hk => ?_, fun q t hq h6 ht => ?_, fun p hp => ?_, ?_, ?_⟩
  · rw [pk_un (by omega), slpA_at]
    split
    · exact ⟨0, by decide, rfl⟩
    · exact h1 k hk
  · rw [pk_un (by omega), slpA_at]
    split
    · rfl
    · exact h2 q t hq h6 ht
  · rw [pk_un (by omega), slpA_at, if_neg (by omega)]; exact h3 p hp
  · obtain ⟨e, he, h48⟩ := h4
    have := p2_le hm
    rw [pk_us, slpA_at, if_neg (by omega), h48, clr_eq e (by omega) j (by omega)]
    exact ⟨_, Nat.lt_of_le_of_lt Nat.and_le_left he, rfl⟩
  · rw [pk_un (by omega), slpA_at, if_neg (by omega)]; exact h5
theorem SI_exa {T : TS} {f : Nat → Int32} {j : Nat} (hS : SI T f) (hj : j < T.2.1) : SI T (exaF f j) := by
  obtain ⟨h1, h2, h3, h4, h5⟩ := hS
  unfold exaF
  refine ⟨fun k hk => by rw [pk_un (by omega)]; exact h1 k hk, fun a t ha h6 ht => by rw [pk_un (by omega)]; exact h2 a t ha h6 ht, fun p hp => by rw [pk_un (by omega)]; exact h3 p hp, ?_, by rw [pk_un (by omega)]; exact h5⟩
  obtain ⟨e, he, h48⟩ := h4
  rw [pk_us, h48, orI]
  exact ⟨_, Nat.or_lt_two_pow he (Nat.pow_lt_pow_right (by decide) hj), rfl⟩
theorem SI_mixT {T : TS} {f : Nat → Int32} {a b t : Nat} (hS : SI T f) (hm : T.2.1 ≤ 6) (ha : a < T.2.1) (hb : b < T.2.1) (ht : t < 7) : SI T (mixT f a b t) := by
  obtain ⟨h1, h2, h3, h4, h5⟩ := hS
  obtain ⟨i, hi, e1⟩ := h1 (a * 7 + t) (by omega)
  obtain ⟨j, hj, e2⟩ := h1 (b * 7 + t) (by omega)
  unfold mixT
  rw [e1, e2, nI_add, imin_nI (by omega) (by omega)]
  refine ⟨fun k hk => ?_, fun q t2 hq h6 ht2 => ?_, fun p hp => ?_, ?_, ?_⟩
  · by_cases c1 : k = b * 7 + t
    · rw [c1, pk_us]; exact ⟨_, Nat.min_le_right _ _, rfl⟩
    · rw [pk_un c1]
      by_cases c2 : k = a * 7 + t
      · rw [c2, pk_us]; exact ⟨_, Nat.min_le_right _ _, rfl⟩
      · rw [pk_un c2]; exact h1 k hk
  · rw [pk_un (by omega), pk_un (by omega)]; exact h2 q t2 hq h6 ht2
  · rw [pk_un (by omega), pk_un (by omega)]; exact h3 p hp
  · rw [pk_un (by omega), pk_un (by omega)]; exact h4
  · rw [pk_un (by omega), pk_un (by omega)]; exact h5
theorem SI_mix {T : TS} {f : Nat → Int32} {a b : Nat} (hS : SI T f) (hm : T.2.1 ≤ 6) (ha : a < T.2.1) (hb : b < T.2.1) : ∀ k, k ≤ 7 → SI T (mixA f a b k)
  | 0, _ => hS
  | k + 1, hk => by
    rw [mixA]
    exact SI_mixT (SI_mix hS hm ha hb k (by omega)) hm ha hb (by omega)
theorem begA_at (f : Nat → Int32) {n m : Nat} (hn : n ≤ 6) (hm : m ≤ 6) : ∀ k, k ≤ 6 → ∀ i, i < 50 → begA f n m k i = if 42 ≤ i ∧ i < 42 + k then (if i - 42 < n ∧ i - 42 < m then nI (i - 42) else (-9)) else nI 0
  | 0, _, i, hi => by rw [begA, filA_in hi, if_neg (by omega)]
  | k + 1, hk, i, hi => by
    rw [begA]
    by_cases h : i = 42 + k
    · subst h
      rw [pk_us, if_pos (show 42 ≤ 42 + k ∧ 42 + k < 42 + (k + 1) by omega), show 42 + k - 42 = k by omega]
      by_cases h2 : k < n ∧ k < m
      · rw [if_pos h2, if_pos ⟨(inR_nI (by omega) (by omega)).mpr h2.1, (inR_nI (by omega) (by omega)).mpr h2.2⟩]
      · rw [if_neg h2, if_neg (fun z => h2 ⟨(inR_nI (by omega) (by omega)).mp z.1, (inR_nI (by omega) (by omega)).mp z.2⟩)]
    · rw [pk_un h, begA_at f hn hm k (by omega) i hi]
      by_cases h2 : 42 ≤ i ∧ i < 42 + k
      · rw [if_pos h2, if_pos (show 42 ≤ i ∧ i < 42 + (k + 1) by omega)]
      · rw [if_neg h2, if_neg (show ¬ (42 ≤ i ∧ i < 42 + (k + 1)) by omega)]
theorem SI_beg {T : TS} (f : Nat → Int32) (hn : T.1 ≤ 6) (hm : T.2.1 ≤ 6) : SI T (begA f T.1 T.2.1 6) := by
  refine ⟨fun k hk => ?_, fun q t hq h6 ht => ?_, fun p hp => ?_, ?_, ?_⟩
  · rw [begA_at f hn hm 6 (by decide) k (by omega), if_neg (by omega)]; exact ⟨0, by decide, rfl⟩
  · rw [begA_at f hn hm 6 (by decide) _ (by omega), if_neg (by omega)]
  · rw [begA_at f hn hm 6 (by decide) _ (by omega), if_pos (by omega), show 42 + p - 42 = p by omega]
    by_cases h : p < T.1 ∧ p < T.2.1
    · rw [if_pos h]; exact Or.inr ⟨h.1, p, h.2, rfl⟩
    · rw [if_neg h]; exact Or.inl rfl
  · rw [begA_at f hn hm 6 (by decide) 48 (by decide), if_neg (by omega)]; exact ⟨0, Nat.two_pow_pos _, rfl⟩
  · rw [begA_at f hn hm 6 (by decide) 49 (by decide), if_neg (by omega)]; exact ⟨0, by decide, rfl⟩
theorem slpS_B {T : TS} {f : Nat → Int32} (hm : T.2.1 ≤ 6) (hbed : ∀ p, p < 6 → f (42 + p) = (-9) ∨ (p < T.1 ∧ ∃ q, q < T.2.1 ∧ f (42 + p) = nI q)) (kn ta : Nat → Int32) (z nt : Int32) {q t : Nat} (hq : T.2.1 ≤ q) (h6 : q < 6) (ht : t < 7) : ∀ k, k ≤ 6 → (slpS kn ta z nt f k).2 (q * 7 + t) = f (q * 7 + t)
  | 0, _ => rfl
  | k + 1, hk => by
    have ih := slpS_B hm hbed kn ta z nt hq h6 ht k (by omega)
    rw [slpS]
    by_cases h0 : sayS kn ta k z nt < 0
    · rw [if_pos h0]; exact ih
    · rw [if_neg h0]
      show hrS (slpS kn ta z nt f k).2 ((slpS kn ta z nt f k).2 (42 + k)) (sayS kn ta k z nt).toNatClampNeg (q * 7 + t) = _
      rw [slpS_hi kn ta z nt f (by omega) k]
      rcases sayS_in kn ta k z nt with h1 | ⟨j, hj, h1⟩
      · exact absurd h1 h0
      · rw [h1, nI_clamp (by omega)]
        rcases hbed k (by omega) with h2 | ⟨-, b, hb, h2⟩
        · rw [h2, hrS_n (by decide)]; exact ih
        · rw [h2, hrS_y (by omega), pk_un (by omega)]; exact ih
theorem SI_ngt {T : TS} {f : Nat → Int32} {z : Int32} (hS : SI T f) (hn : T.1 ≤ 6) (hm : T.2.1 ≤ 6) (h : f 49 < nI 999) : SI T (ngtF T f z) := by
  obtain ⟨h1, h2, h3, h4, h5⟩ := hS
  refine ⟨ngtF_99 T z h1, fun q t hq h6 ht => ?_, fun p hp => ?_, ?_, ?_⟩
  · unfold ngtF
    rw [pk_un (by omega), slpS_B hm h3 T.2.2.1 T.2.2.2.1 z (f 49) hq h6 ht T.1 hn]
    exact h2 q t hq h6 ht
  · rw [ngtF_hi T f z (by omega) (by omega)]; exact h3 p hp
  · rw [ngtF_hi T f z (by omega) (by omega)]; exact h4
  · obtain ⟨n, hn9, e⟩ := h5
    rw [ngtF_49, e, nI_add]
    rw [e, nI_ltI (by omega) (by omega)] at h
    exact ⟨_, by omega, rfl⟩
/-- a row of 50 numbers in a longer one -/
def rw50 (pa : Nat → Int32) (b : Nat) : Nat → Int32 := fun k => pa (b * 50 + k)
theorem cpA_now {u f g : Nat → Int32} (h : ∀ i, i < 50 → u i = nowO g i) : cpA u (nowO f) 50 = nowO g := by
  funext k
  unfold cpA
  by_cases hk : k < 50
  · rw [if_pos hk, h k hk]
  · rw [if_neg hk, nowO_out (by omega), nowO_out (by omega)]
def UI (T : TS) (pa un : Nat → Int32) (und top : Nat) : Prop := ∀ d, d < und → (∀ i, i < 50 → un (50 * (und - 1 - d) + i) = nowO (rw50 pa ((top + 9 - d) % 10)) i) ∧ SI T (rw50 pa ((top + 9 - d) % 10))
theorem cpU_in {u w : Nat → Int32} {b k j : Nat} (h : b ≤ j ∧ j < b + k) : cpU u w b k j = w (j - b) := if_pos h
theorem cpU_out {u w : Nat → Int32} {b k j : Nat} (h : ¬ (b ≤ j ∧ j < b + k)) : cpU u w b k j = u j := if_neg h
theorem unK_10 (un f : Nat → Int32) : unK un f 10 = cpU (shS un 500) (nowO f) (50 * 9) 50 := if_pos rfl
theorem unK_n {un f : Nat → Int32} {und : Nat} (h : ¬ und = 10) : unK un f und = cpU un (nowO f) (50 * und) 50 := if_neg h
theorem UI_rem {T : TS} {pa un f : Nat → Int32} {und top : Nat} (hu : und ≤ 10) (ht : top < 10) (hS : SI T f) (h : UI T pa un und top) : UI T (va_cpy f pa 0 (top * 50) 50) (unK un f und) (min (und + 1) 10) ((top + 1) % 10) := by
  have e0 : ∀ k, k < 50 → rw50 (va_cpy f pa 0 (top * 50) 50) top k = f k := fun k hk => by
    unfold rw50
    rw [pk_cpy_in (by omega) (by omega), show 0 + (top * 50 + k - top * 50) = k by omega]
  have e1 : ∀ b, b ≠ top → ∀ k, k < 50 → rw50 (va_cpy f pa 0 (top * 50) 50) b k = rw50 pa b k := fun b hb k hk => by
    unfold rw50
    rw [pk_cpy_out (by omega)]
  intro d hd
  by_cases d0 : d = 0
  · subst d0
    rw [show ((top + 1) % 10 + 9 - 0) % 10 = top by omega, nowO_c50 e0]
    refine ⟨fun i hi => ?_, SI_cg (fun k hk => (e0 k hk).symm) hS⟩
    by_cases h10 : und = 10
    · subst h10
      rw [unK_10, cpU_in (by omega), show 50 * (min (10 + 1) 10 - 1 - 0) + i - 50 * 9 = i by omega]
    · rw [unK_n h10, cpU_in (by omega)]
      congr 1; omega
  · have hb : ((top + 1) % 10 + 9 - d) % 10 ≠ top := by omega
    have eb : ((top + 1) % 10 + 9 - d) % 10 = (top + 9 - (d - 1)) % 10 := by omega
    obtain ⟨g1, g2⟩ := h (d - 1) (by omega)
    rw [nowO_c50 (e1 _ hb), eb]
    rw [eb] at hb
    refine ⟨fun i hi => ?_, SI_cg (fun k hk => (e1 _ hb k hk).symm) g2⟩
    rw [← g1 i hi]
    by_cases h10 : und = 10
    · subst h10
      rw [unK_10, cpU_out (by omega)]
      unfold shS
      rw [if_pos (by omega)]
      congr 1; omega
    · rw [unK_n h10, cpU_out (by omega)]
      congr 1; omega
theorem UI_undo {T : TS} {pa un f : Nat → Int32} {und top : Nat} (h0 : ¬ und = 0) (hu : und ≤ 10) (ht : top < 10) (h : UI T pa un und top) : cpA (fun i => un (50 * (und - 1) + i)) (nowO f) 50 = nowO (va_cpy pa f ((top + 10 - 1) % 10 * 50) 0 50) ∧ SI T (va_cpy pa f ((top + 10 - 1) % 10 * 50) 0 50) ∧ UI T pa un (und - 1) ((top + 10 - 1) % 10) := by
  obtain ⟨g1, g2⟩ := h 0 (by omega)
  rw [show (top + 9 - 0) % 10 = (top + 10 - 1) % 10 by omega] at g1 g2
  have e : ∀ k, k < 50 → rw50 pa ((top + 10 - 1) % 10) k = va_cpy pa f ((top + 10 - 1) % 10 * 50) 0 50 k := fun k hk => by
    unfold rw50
    rw [pk_cpy_in (by omega) (by omega), Nat.sub_zero]
  refine ⟨cpA_now (fun i hi => ?_), SI_cg e g2, fun d hd => ?_⟩
  · rw [← nowO_c50 e, ← g1 i hi, Nat.sub_zero]
  · obtain ⟨k1, k2⟩ := h (d + 1) (by omega)
    have eb : ((top + 10 - 1) % 10 + 9 - d) % 10 = (top + 9 - (d + 1)) % 10 := by omega
    rw [eb, show und - 1 - 1 - d = und - 1 - (d + 1) by omega]
    exact ⟨k1, k2⟩
def II (T : TS) (im kp ke : Nat → Int32) : Prop := ∀ j, j < 2 → (kp j = 0 ↔ ke (51 * j) = 0) ∧ (¬ kp j = 0 → (∀ i, i < 50 → ke (51 * j + 1 + i) = nowO (rw50 im j) i) ∧ SI T (rw50 im j))
theorem II_keep {T : TS} {im kp ke f : Nat → Int32} {j : Nat} (hj : j < 2) (hS : SI T f) (h : II T im kp ke) : II T (va_cpy f im 0 (j * 50) 50) (upd kp j (nI 1)) (keN ke f j) := by
  have e0 : ∀ k, k < 50 → rw50 (va_cpy f im 0 (j * 50) 50) j k = f k := fun k hk => by
    unfold rw50
    rw [pk_cpy_in (by omega) (by omega), show 0 + (j * 50 + k - j * 50) = k by omega]
  have e1 : ∀ b, b ≠ j → ∀ k, k < 50 → rw50 (va_cpy f im 0 (j * 50) 50) b k = rw50 im b k := fun b hb k hk => by
    unfold rw50
    rw [pk_cpy_out (by omega)]
  intro b hb
  unfold keN
  by_cases hc : b = j
  · subst hc
    rw [pk_us, cpU_out (by omega), pk_us]
    refine ⟨Iff.rfl, fun _ => ⟨fun i hi => ?_, SI_cg (fun k hk => (e0 k hk).symm) hS⟩⟩
    rw [nowO_c50 e0, cpU_in (by omega)]
    congr 1; omega
  · obtain ⟨g1, g2⟩ := h b hb
    rw [pk_un hc, cpU_out (by omega), pk_un (by omega)]
    refine ⟨g1, fun hk => ?_⟩
    obtain ⟨k1, k2⟩ := g2 hk
    refine ⟨fun i hi => ?_, SI_cg (fun k hk => (e1 b hc k hk).symm) k2⟩
    rw [nowO_c50 (e1 b hc), cpU_out (by omega), pk_un (by omega)]
    exact k1 i hi
theorem II_back {T : TS} {im kp ke : Nat → Int32} (f : Nat → Int32) {j : Nat} (hj : j < 2) (h : II T im kp ke) (hk : ¬ kp j = 0) : cpA (fun i => ke (51 * j + 1 + i)) (nowO f) 50 = nowO (va_cpy im f (j * 50) 0 50) ∧ SI T (va_cpy im f (j * 50) 0 50) ∧ ke (51 * j + 1) = va_cpy im f (j * 50) 0 50 49 := by
  obtain ⟨g1, g2⟩ := (h j hj).2 hk
  have e : ∀ k, k < 50 → rw50 im j k = va_cpy im f (j * 50) 0 50 k := fun k hk => by
    unfold rw50
    rw [pk_cpy_in (by omega) (by omega), Nat.sub_zero]
  refine ⟨cpA_now (fun i hi => ?_), SI_cg e g2, ?_⟩
  · rw [← nowO_c50 e]; exact g1 i hi
  · have := g1 0 (by decide)
    rw [Nat.add_zero] at this
    rw [this, nowO_0, e 49 (by decide)]
theorem II_new (T : TS) (im kp ke : Nat → Int32) : II T im (filA kp (nI 0) 2) (upd (upd ke 0 (nI 0)) 51 (nI 0)) := by
  intro j hj
  have e : filA kp (nI 0) 2 j = nI 0 := if_pos hj
  rw [e]
  refine ⟨⟨fun _ => ?_, fun _ => rfl⟩, fun z => absurd rfl z⟩
  obtain rfl | rfl : j = 0 ∨ j = 1 := by omega
  · rw [pk_un (by decide)]; exact pk_us
  · exact pk_us
theorem UI_new (T : TS) (pa un : Nat → Int32) (top : Nat) : UI T pa un 0 top := fun d hd => absurd hd (Nat.not_lt_zero d)
theorem noN_1 (no : Nat → Int32) (nt : Nat) (q t x : Int32) : n1O (noN no nt q t x) = upd (n1O no) nt q := by
  funext k
  show noN no nt q t x (3 * k) = _
  unfold noN
  rw [pk_un (by omega), pk_un (by omega)]
  by_cases h : k = nt
  · subst h; rw [pk_us, pk_us]
  · rw [pk_un (by omega), pk_un h]
theorem noN_2 (no : Nat → Int32) (nt : Nat) (q t x : Int32) : n2O (noN no nt q t x) = upd (n2O no) nt t := by
  funext k
  show noN no nt q t x (3 * k + 1) = _
  unfold noN
  rw [pk_un (by omega)]
  by_cases h : k = nt
  · subst h; rw [pk_us, pk_us]
  · rw [pk_un (by omega), pk_un (by omega), pk_un h]
theorem noN_3 (no : Nat → Int32) (nt : Nat) (q t x : Int32) : n3O (noN no nt q t x) = upd (n3O no) nt x := by
  funext k
  show noN no nt q t x (3 * k + 2) = _
  unfold noN
  by_cases h : k = nt
  · subst h; rw [pk_us, pk_us]
  · rw [pk_un (by omega), pk_un (by omega), pk_un (by omega), pk_un h]
