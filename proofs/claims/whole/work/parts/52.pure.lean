section PURE
variable {σ μ : Mem} {E B t L n x s : Nat}
-- season
theorem and_pow : ∀ t, t ≤ 7 → ∀ k, k < 128 → ((nI k &&& (nI (2 ^ t) - 1)) = 0 ↔ k % 2 ^ t = 0) := by decide +kernel
theorem low_bits : ∀ t, t ≤ 7 → ∀ k, k < 128 → k % 2 ^ t = 0 → ∀ i, i < t → bt5 k i = false := by decide +kernel
theorem sv_low {k : Nat} {row : Nat → Int32} : ∀ {m : Nat}, (∀ i, i < m → bt5 k i = false) → svM k row m = 0
  | 0, _ => rfl
  | m + 1, h => by rw [svM, if_neg (by rw [h m (by omega)]; decide), sv_low (fun i hi => h i (by omega))]
theorem sv_svS {k : Nat} {row row2 : Nat → Int32} {t : Nat} (h : ∀ i, i < t → bt5 k i = false) : ∀ m, (∀ i, i < m → row (t + i) = row2 (t + i)) → svM k row (t + m) = svS k row2 t m
  | 0, _ => sv_low h
  | m + 1, h2 => by
    rw [← Nat.add_assoc, svM, svS, sv_svS h m (fun i hi => h2 i (by omega)), h2 m (by omega)]
theorem sm_skip {G C : Nat → Int32} {pu : Int32} {t m : Nat} (ht : t ≤ 7) : ∀ r, r < 2 ^ t → m * 2 ^ t + 1 + r ≤ 128 → smG G C pu t (m * 2 ^ t + 1 + r) = smG G C pu t (m * 2 ^ t + 1)
  | 0, _, _ => rfl
  | r + 1, hr, h8 => by
    rw [← Nat.add_assoc, smG, if_neg (fun z => ?_)]
    · exact sm_skip ht r (by omega) (by omega)
    · have h1 := (and_pow t ht (m * 2 ^ t + 1 + r) (by omega)).mp z.1
      rw [Nat.add_assoc, Nat.add_comm (m * 2 ^ t), Nat.add_mul_mod_self_right, Nat.mod_eq_of_lt (by omega)] at h1
      omega
theorem sm_se {G C G2 C2 : Nat → Int32} {pu : Int32} {t : Nat} (ht : t ≤ 7) (h0 : G2 0 = 0) (hG : ∀ k, k < 128 → k % 2 ^ t = 0 → G2 k = G k) (hC : ∀ k, k < 128 → k % 2 ^ t = 0 → C2 k = C k) : ∀ m, m * 2 ^ t < 128 → smG G2 C2 pu t (m * 2 ^ t + 1) = seG G C pu (2 ^ t) m
  | 0, _ => by
    rw [Nat.zero_mul, smG, if_neg (fun z => z.2.2 (by rw [h0]; exact Int32.le_refl _))]; rfl
  | m + 1, h => by
    have hp := Nat.two_pow_pos t
    have e0 : (m + 1) * 2 ^ t = m * 2 ^ t + 1 + (2 ^ t - 1) := by rw [Nat.succ_mul]; omega
    have ih := sm_se (pu := pu) ht h0 hG hC m (by omega)
    have sk := sm_skip (G := G2) (C := C2) (pu := pu) (m := m) ht (2 ^ t - 1) (by omega) (by omega)
    have hm : (m + 1) * 2 ^ t % 2 ^ t = 0 := Nat.mul_mod_left _ _
    rw [smG, seG, hG _ h hm, hC _ h hm, show smG G2 C2 pu t ((m + 1) * 2 ^ t) = seG G C pu (2 ^ t) m by rw [e0, sk, ih]]
    have ha := (and_pow t ht ((m + 1) * 2 ^ t) h).mpr hm
    by_cases q1 : G ((m + 1) * 2 ^ t) ≤ (seG G C pu (2 ^ t) m).1
    · rw [if_pos q1, if_neg (fun z => z.2.2 q1)]
    · rw [if_neg q1]
      by_cases q2 : pu < C ((m + 1) * 2 ^ t)
      · rw [if_pos q2, if_neg (fun z => z.2.1 q2)]
      · rw [if_neg q2, if_pos ⟨ha, q2, q1⟩]
theorem op_season (h : IV σ μ E B t L n x s) (b w : Int32) : seA σ t E b w = seM μ t E b w := by
  unfold seA seM
  rw [(h.inB b).1, (h.inB b).2]
  have hB := h.tok.b.1
  have hE := h.tok.e.1
  have hT := h.cok.t.1
  by_cases q : inR b (nI B) = false
  · rw [if_pos q, if_pos q]
  · rw [if_neg q, if_neg q]
    by_cases q1 : inW w 1 = false
    · rw [if_pos q1, if_pos q1]
    · rw [if_neg q1, if_neg q1]
      obtain ⟨j, hj, rfl⟩ := inR_of (x := b) (n := B) (by simpa using q) (by omega)
      rw [toN_nI (by omega)]
      have e1 : smF μ j t E = seF σ j t E := by
        unfold smF seF
        have hp := Nat.two_pow_pos t
        have hp2 := Nat.two_pow_pos (E - t)
        have e2 : 2 ^ E = 2 ^ (E - t) * 2 ^ t := by rw [← Nat.pow_add]; congr 1; omega
        have h7 := two7 hE
        have e3 : 2 ^ (E - t) * 2 ^ t = (2 ^ (E - t) - 1) * 2 ^ t + 2 ^ t := by
          have := Nat.succ_mul (2 ^ (E - t) - 1) (2 ^ t)
          rw [← this]; congr 1; omega
        have e4 : 2 ^ E = (2 ^ (E - t) - 1) * 2 ^ t + 1 + (2 ^ t - 1) := by omega
        rw [show smG (fun k => svM k (mGa μ j) E) (fun k => svM k (mPr μ) E) (μ 1 (70 + 6 * j + 3)) t (2 ^ E) = smG (fun k => svM k (mGa μ j) E) (fun k => svM k (mPr μ) E) (μ 1 (70 + 6 * j + 3)) t ((2 ^ (E - t) - 1) * 2 ^ t + 1) by rw [e4]; exact sm_skip (by omega) _ (by omega) (by omega)]
        rw [(h.cor.bi j hj).1]
        refine sm_se (t := t) (G2 := fun k => svM k (mGa μ j) E) (C2 := fun k => svM k (mPr μ) E) (G := fun k => svS k (sgF σ j) t (E - t)) (C := fun k => svS k (σ 16) t (E - t)) (pu := σ 13 j) (by omega) (sv_low (fun i hi => low_bits 7 (by omega) 0 (by omega) rfl i (by omega))) (fun k hk hm => ?_) (fun k hk hm => ?_) (2 ^ (E - t) - 1) (by omega)
        · have e5 := sv_svS (row := mGa μ j) (row2 := sgF σ j) (low_bits t (by omega) k hk hm) (E - t) (fun i hi => by
            rw [mGa, h.gn hj (by omega), show mPr μ (t + i) = σ 16 (t + i) from (h.cor.ev (t + i) (by omega)).1]; rfl)
          rw [show t + (E - t) = E by omega] at e5; exact e5
        · have e5 := sv_svS (row := mPr μ) (row2 := σ 16) (low_bits t (by omega) k hk hm) (E - t) (fun i hi => (h.cor.ev (t + i) (by omega)).1)
          rw [show t + (E - t) = E by omega] at e5; exact e5
      rw [e1]
-- bright
theorem smI_congr {F G : Nat → Int32} : ∀ {n : Nat}, (∀ i, i < n → F i = G i) → smI F n = smI G n
  | 0, _ => rfl
  | n + 1, h => by rw [smI, smI, smI_congr (fun i hi => h i (by omega)), h n (by omega)]
theorem smI_split (F : Nat → Int32) (a : Nat) : ∀ b, smI F (a + b) = smI F a + smI (fun s => F (a + s)) b
  | 0 => by rw [smI, Int32.add_zero]; rfl
  | b + 1 => by rw [← Nat.add_assoc, smI, smI_split F a b, smI, Int32.add_assoc]
theorem smI_mul (F : Nat → Int32) (c : Int32) : ∀ n, smI (fun s => F s * c) n = smI F n * c
  | 0 => by rw [smI, smI, Int32.zero_mul]
  | n + 1 => by rw [smI, smI, smI_mul F c n, Int32.add_mul]
theorem smI_add (F G : Nat → Int32) : ∀ n, smI (fun s => F s + G s) n = smI F n + smI G n
  | 0 => by rw [smI, smI, smI]; rfl
  | n + 1 => by
    rw [smI, smI, smI, smI_add F G n]
    rw [Int32.add_assoc, Int32.add_assoc]
    congr 1
    rw [← Int32.add_assoc, Int32.add_comm (smI G n), Int32.add_assoc]
theorem smI_zero : ∀ n, smI (fun _ => 0) n = 0
  | 0 => rfl
  | n + 1 => by rw [smI, smI_zero n]; rfl
theorem hi_bits : ∀ i, i < 7 → ∀ s, s < 2 ^ i → bt5 s i = false ∧ bt5 (2 ^ i + s) i = true ∧ ∀ j, j < i → bt5 (2 ^ i + s) j = bt5 s j := by decide +kernel
theorem cnb_congr {a b : Nat} : ∀ {m : Nat}, (∀ j, j < m → bt5 a j = bt5 b j) → cnb a m = cnb b m
  | 0, _ => rfl
  | m + 1, h => by rw [cnb, cnb, h m (by omega), cnb_congr (fun j hj => h j (by omega))]
theorem wyM_bits {ch : Nat → Int32} {t E a b : Nat} : ∀ {m : Nat}, (∀ j, j < m → bt5 a j = bt5 b j) → wyM ch t E a m = wyM ch t E b m
  | 0, _ => rfl
  | m + 1, h => by rw [wyM, wyM, h m (by omega), wyM_bits (fun j hj => h j (by omega))]
theorem wyM_ch {ch ch2 : Nat → Int32} {t E a : Nat} (h : ∀ j, j < E → ch j = ch2 j) : ∀ {m : Nat}, wyM ch t E a m = wyM ch2 t E a m
  | 0 => rfl
  | m + 1 => by
    rw [wyM, wyM, wyM_ch h (m := m)]
    by_cases q : t ≤ m ∧ m < E
    · rw [if_pos q, if_pos q, h m q.2]
    · rw [if_neg q, if_neg q]
theorem wyN_ch {ch ch2 : Nat → Int32} {t : Nat} : ∀ {m : Nat}, (∀ j, j < m → ch (t + j) = ch2 (t + j)) → wyN ch t m = wyN ch2 t m
  | 0, _ => rfl
  | m + 1, h => by rw [wyN, wyN, wyN_ch (fun j hj => h j (by omega)), h m (by omega)]
/-- the ways of the sets of i evenings with x bright ones -/
def waA (ch : Nat → Int32) (t E i x : Nat) : Int32 := smI (fun s => if cnb s i = x then wyM ch t E s i else 0) (2 ^ i)
def fa0 (ch : Nat → Int32) (t E i : Nat) : Int32 := if t ≤ i ∧ i < E then 10 - ch i else 1
def fa1 (ch : Nat → Int32) (t E i : Nat) : Int32 := if t ≤ i ∧ i < E then ch i else 0
theorem waA_s (ch : Nat → Int32) (t E : Nat) {i : Nat} (hi : i < 7) (x : Nat) : waA ch t E (i + 1) x = waA ch t E i x * fa0 ch t E i + (if x = 0 then 0 else waA ch t E i (x - 1) * fa1 ch t E i) := by
  unfold waA
  rw [show 2 ^ (i + 1) = 2 ^ i + 2 ^ i by rw [Nat.pow_succ]; omega, smI_split]
  congr 1
  · rw [← smI_mul]
    refine smI_congr (fun s hs => ?_)
    have hb := (hi_bits i hi s hs).1
    have e1 : cnb s (i + 1) = cnb s i := by rw [cnb, if_neg (by rw [hb]; decide)]
    have e2 : wyM ch t E s (i + 1) = wyM ch t E s i * fa0 ch t E i := by
      rw [wyM, fa0, if_neg (c := bt5 s i = true) (by rw [hb]; decide), if_neg (c := bt5 s i = true) (by rw [hb]; decide)]
    rw [e1, e2]
    by_cases q : cnb s i = x
    · rw [if_pos q, if_pos q]
    · rw [if_neg q, if_neg q, Int32.zero_mul]
  · have key : ∀ s, s < 2 ^ i → cnb (2 ^ i + s) (i + 1) = cnb s i + 1 ∧ wyM ch t E (2 ^ i + s) (i + 1) = wyM ch t E s i * fa1 ch t E i := by
      intro s hs
      obtain ⟨_, hb, hl⟩ := hi_bits i hi s hs
      refine ⟨by rw [cnb, if_pos hb, cnb_congr hl], ?_⟩
      rw [wyM, fa1, wyM_bits hl, if_pos (c := bt5 (2 ^ i + s) i = true) hb, if_pos (c := bt5 (2 ^ i + s) i = true) hb]
    by_cases q : x = 0
    · rw [if_pos q]
      rw [smI_congr (G := fun _ => 0) (fun s hs => by rw [(key s hs).1, if_neg (by omega)]), smI_zero]
    · rw [if_neg q, ← smI_mul]
      refine smI_congr (fun s hs => ?_)
      rw [(key s hs).1, (key s hs).2]
      by_cases q2 : cnb s i = x - 1
      · rw [if_pos q2, if_pos (by omega)]
      · rw [if_neg q2, if_neg (by omega), Int32.zero_mul]
theorem waA_wyN (ch : Nat → Int32) (t E : Nat) : ∀ i, i ≤ 7 → ∀ x, waA ch t E i x = wyN ch t (min i E - t) x
  | 0, _, x => by
    rw [show min 0 E - t = 0 by omega]
    show smI _ 1 = _
    rw [smI, smI, wyN, Int32.zero_add]
    by_cases q : x = 0
    · subst q; rfl
    · rw [if_neg (show ¬ cnb 0 0 = x from fun z => q z.symm)]; exact (if_neg q).symm
  | i + 1, hi, x => by
    rw [waA_s ch t E (by omega), waA_wyN ch t E i (by omega) x, waA_wyN ch t E i (by omega) (x - 1)]
    by_cases q : t ≤ i ∧ i < E
    · rw [fa0, fa1, if_pos q, if_pos q, show min (i + 1) E - t = (min i E - t) + 1 by omega, wyN, wyS, show t + (min i E - t) = i by omega]
      by_cases q2 : x = 0
      · rw [if_pos q2, if_pos q2, q2, Int32.add_zero]
      · rw [if_neg q2, if_neg q2]
    · rw [fa0, fa1, if_neg q, if_neg q, show min (i + 1) E - t = min i E - t by omega, Int32.mul_one, Int32.mul_zero]
      rw [show (if x = 0 then (0 : Int32) else 0) = 0 by split <;> rfl, Int32.add_zero]
theorem abM_sm (ch : Nat → Int32) (t E k : Nat) : ∀ s, abM ch t E k s = smI (fun s => if k ≤ cnb s 7 then wyM ch t E s 7 else 0) s
  | 0 => rfl
  | s + 1 => by rw [abM, smI, abM_sm ch t E k s]
theorem suF_sm (ch : Nat → Int32) (t E k : Nat) : ∀ m, suF (fun x => waA ch t E 7 x) k m = smI (fun s => if k ≤ cnb s 7 ∧ cnb s 7 < k + m then wyM ch t E s 7 else 0) 128
  | 0 => by
    rw [suF, smI_congr (G := fun _ => 0) (fun s _ => if_neg (by omega)), smI_zero]
  | m + 1 => by
    rw [suF, suF_sm ch t E k m]
    show _ + smI _ 128 = _
    rw [← smI_add]
    refine smI_congr (fun s _ => ?_)
    by_cases q : cnb s 7 = k + m
    · rw [if_neg (show ¬ (k ≤ cnb s 7 ∧ cnb s 7 < k + m) by omega), if_pos q, if_pos (show k ≤ cnb s 7 ∧ cnb s 7 < k + (m + 1) by omega), Int32.zero_add]
    · rw [if_neg q, Int32.add_zero]
      by_cases q2 : k ≤ cnb s 7 ∧ cnb s 7 < k + m
      · rw [if_pos q2, if_pos (show k ≤ cnb s 7 ∧ cnb s 7 < k + (m + 1) by omega)]
      · rw [if_neg q2, if_neg (show ¬ (k ≤ cnb s 7 ∧ cnb s 7 < k + (m + 1)) by omega)]
theorem abM_suF (ch : Nat → Int32) {t E k : Nat} (hE : E ≤ 7) (hk : k ≤ 7) : abM ch t E k 128 = suF (wyN ch t (E - t)) k (8 - k) := by
  have e1 : (fun x => waA ch t E 7 x) = wyN ch t (E - t) := by
    funext x; rw [waA_wyN ch t E 7 (by omega) x, show min 7 E = E by omega]
  rw [← e1, suF_sm, abM_sm]
  refine smI_congr (fun s _ => ?_)
  have := cnb_le s 7
  by_cases q : k ≤ cnb s 7
  · rw [if_pos q, if_pos (show k ≤ cnb s 7 ∧ cnb s 7 < k + (8 - k) by omega)]
  · rw [if_neg q, if_neg (show ¬ (k ≤ cnb s 7 ∧ cnb s 7 < k + (8 - k)) by omega)]
theorem abM_ch {ch ch2 : Nat → Int32} {t E k : Nat} (h : ∀ j, j < E → ch j = ch2 j) (s : Nat) : abM ch t E k s = abM ch2 t E k s := by
  rw [abM_sm, abM_sm]
  exact smI_congr (fun s _ => by rw [wyM_ch h])
theorem wyN_nat {ch : Nat → Int32} {t : Nat} : ∀ m, (∀ j, j < m → ∃ c, c ≤ 10 ∧ ch (t + j) = nI c) → ∃ W : Nat → Nat, ∀ x, wyN ch t m x = nI (W x) ∧ W x ≤ 10 ^ m
  | 0, _ => ⟨fun x => if x = 0 then 1 else 0, fun x => by
      rw [wyN]
      dsimp only
      by_cases q : x = 0
      · rw [if_pos q, if_pos q]; exact ⟨rfl, by decide⟩
      · rw [if_neg q, if_neg q]; exact ⟨rfl, by decide⟩⟩
  | m + 1, h => by
    obtain ⟨W, hW⟩ := wyN_nat m (fun j hj => h j (by omega))
    obtain ⟨c, hc, ec⟩ := h m (by omega)
    refine ⟨fun x => if x = 0 then W 0 * (10 - c) else W x * (10 - c) + W (x - 1) * c, fun x => ?_⟩
    rw [wyN, wyS, ec, show (10 : Int32) - nI c = nI (10 - c) from nI_sub9 (a := 10) hc]
    dsimp only
    by_cases q : x = 0
    · rw [if_pos q, if_pos q, (hW 0).1, pk_mul]
      exact ⟨rfl, by rw [Nat.pow_succ]; exact Nat.mul_le_mul (hW 0).2 (by omega)⟩
    · rw [if_neg q, if_neg q, (hW x).1, (hW (x - 1)).1, pk_mul, pk_mul, nI_add]
      refine ⟨rfl, ?_⟩
      have h1 := Nat.mul_le_mul_right (10 - c) (hW x).2
      have h2 := Nat.mul_le_mul_right c (hW (x - 1)).2
      have h3 : 10 ^ m * (10 - c) + 10 ^ m * c = 10 ^ (m + 1) := by rw [← Nat.mul_add, Nat.pow_succ]; congr 1; omega
      omega
theorem suF_nat {w : Nat → Int32} {W : Nat → Nat} {k M : Nat} (h : ∀ x, w x = nI (W x) ∧ W x ≤ M) : ∀ m, ∃ gd, gd ≤ m * M ∧ suF w k m = nI gd
  | 0 => ⟨0, by omega, rfl⟩
  | m + 1 => by
    obtain ⟨gd, h1, h2⟩ := suF_nat (k := k) h m
    refine ⟨gd + W (k + m), ?_, by rw [suF, h2, (h _).1, nI_add]⟩
    rw [Nat.succ_mul]
    have := (h (k + m)).2
    omega
theorem IV.brC (h : IV σ μ E B t L n x s) : ∀ k, k ≤ 7 → ∃ gd, gd < 2 ^ 31 ∧ suF (wyN (σ 8) t (E - t)) k (8 - k) = nI gd := by
  intro k hk
  have hE := h.tok.e.1
  have hT := h.cok.t.1
  obtain ⟨W, hW⟩ := wyN_nat (ch := σ 8) (t := t) (E - t) (fun j hj => (h.tok.ev (t + j) (by omega)).2)
  have h10 : 10 ^ (E - t) ≤ 10 ^ 7 := Nat.pow_le_pow_right (by decide) (by omega)
  obtain ⟨gd, h1, h2⟩ := suF_nat (k := k) (M := 10 ^ 7) (fun x => ⟨(hW x).1, Nat.le_trans (hW x).2 h10⟩) (8 - k)
  refine ⟨gd, ?_, h2⟩
  have h3 : (8 - k) * 10 ^ 7 ≤ 8 * 10 ^ 7 := Nat.mul_le_mul_right _ (by omega)
  exact Nat.lt_of_le_of_lt (Nat.le_trans h1 h3) (by decide)
theorem IV.brE (h : IV σ μ E B t L n x s) {k : Nat} (hk : k ≤ 7) : abM (mCh μ) t E k 128 = suF (wyN (σ 8) t (E - t)) k (8 - k) := by
  rw [abM_ch (ch := mCh μ) (ch2 := σ 8) (fun j hj => (h.tol.ev j hj).2), abM_suF _ h.tok.e.1 hk]
theorem IV.brM (h : IV σ μ E B t L n x s) : ∀ k, k ≤ 7 → ∃ gd, gd < 2 ^ 31 ∧ abM (mCh μ) t E k 128 = nI gd := fun k hk => by rw [h.brE hk]; exact h.brC k hk
theorem op_bright (h : IV σ μ E B t L n x s) (k p : Int32) : brA σ t E k p = brM μ t E k p := by
  unfold brA brM
  by_cases q : inW k 7 = false
  · rw [if_pos q, if_pos q]
  · rw [if_neg q, if_neg q]
    by_cases q1 : inW p 1 = false
    · rw [if_pos q1, if_pos q1]
    · rw [if_neg q1, if_neg q1]
      obtain ⟨i, hi, rfl⟩ := inW_of (x := k) (n := 7) (show inW k 7 = true by simpa using q) (by decide)
      rw [toN_nI (by omega), show gdM μ t E i = gdF σ t E i by rw [gdM, gdF, h.brE hi]]
-- score, best
theorem IV.sc (h : IV σ μ E B t L n x s) {k : Nat} (hk : k < 3) : ∀ e, e ≤ t → scT (σ 20) (σ 19) k e = scM μ k e
  | 0, _ => rfl
  | e + 1, he => by
    have hE := h.tok.e.1
    have hT := h.cok.t.1
    rw [scT, scM, h.sc hk e (by omega)]
    have e1 := (h.cor.ev e (by omega)).2.2.2.1
    have e2 := (h.cor.ev e (by omega)).2.2.2.2 k hk
    rw [e1, e2]
    have e3 : (if σ 19 e = 1 then (10 : Int32) else 0) = 10 * σ (12 + 7) e := by
      show (if σ 19 e = 1 then (10 : Int32) else 0) = 10 * σ 19 e
      rcases h.cok.ou e (by omega) with q | q
      · rw [show σ 19 e = 0 from q]; rfl
      · rw [show σ 19 e = 1 from q]; rfl
    rw [e3]
theorem op_score (h : IV σ μ E B t L n x s) (k : Int32) : scA σ t k = soM μ t k := by
  unfold scA soM
  by_cases q : inW k 2 = false
  · rw [if_pos q, if_pos q]
  · rw [if_neg q, if_neg q]
    obtain ⟨i, hi, rfl⟩ := inW_of (x := k) (n := 2) (show inW k 2 = true by simpa using q) (by decide)
    rw [toN_nI (by omega)]
    exact h.sc (by omega) t (Nat.le_refl _)
theorem op_best (h : IV σ μ E B t L n x s) : btA σ t = btM μ t := by
  unfold btA btM bs3
  simp only [h.sc (k := 0) (by decide) t (Nat.le_refl _), h.sc (k := 1) (by decide) t (Nat.le_refl _), h.sc (k := 2) (by decide) t (Nat.le_refl _)]
  rw [h.sc (k := if scM μ 1 t < scM μ 0 t then 1 else 0) (by split <;> decide) t (Nat.le_refl _)]
-- sights
theorem op_seen (h : IV σ μ E B t L n x s) {b dn v v2 : Int32} {σ' μ' : Mem} (hc : (snC σ b dn = 0 → s < 6 ∧ v = nI (s + 1) ∧ σ' = up2 (up2 (up2 σ 121 s b) 122 s dn) 120 3 (nI (s + 1))) ∧ (¬ snC σ b dn = 0 → v = snC σ b dn ∧ σ' = σ))
    (hm : (snM μ s b dn = 0 → s < 6 ∧ v2 = nI (s + 1) ∧ μ' = up2 (up2 (up2 μ 7 (2 * s) b) 7 (2 * s + 1) dn) 0 9 (nI (s + 1))) ∧ (¬ snM μ s b dn = 0 → v2 = snM μ s b dn ∧ μ' = μ)) : v = v2 ∧ Inv σ' μ' := by
  have hs := h.si.1
  have hE := h.tok.e.1
  have hB := h.tok.b.1
  have e1 : snC σ b dn = snM μ s b dn := by
    unfold snC snM
    rw [(h.inB b).1, (h.inB b).2, h.si.2.1]
    have e9 : nI s < 6 ↔ s < 6 := nI_ltI (b := 6) (by omega) (by decide)
    by_cases q2 : s = 6
    · rw [if_pos q2, if_neg (fun z => absurd (e9.mp z) (by omega))]
    · rw [if_neg q2, if_pos (e9.mpr (by omega))]
  by_cases q : snM μ s b dn = 0
  · obtain ⟨g1, rfl, rfl⟩ := hc.1 (e1.trans q)
    obtain ⟨_, rfl, rfl⟩ := hm.1 q
    have qb : inR b (nI B) = true := by
      cases z : inR b (nI B) with
      | true => rfl
      | false => rw [snM, (h.inB b).2, if_pos z] at q; exact absurd q (by decide)
    have qd : inW dn 1 = true := by
      cases z : inW dn 1 with
      | true => rfl
      | false => rw [snM, (h.inB b).2, if_neg (by rw [qb]; decide), if_pos z] at q; exact absurd q (by decide)
    obtain ⟨j, hj, rfl⟩ := inR_of qb (by omega)
    obtain ⟨d, hd, rfl⟩ := inW_of (n := 1) qd (by decide)
    refine ⟨rfl, E, B, t, L, n, x, s + 1, ?_⟩
    have cq : ∀ q, q ≠ 120 → q ≠ 121 → q ≠ 122 → up2 (up2 (up2 σ 121 s (nI j)) 122 s (nI d)) 120 3 (nI (s + 1)) q = σ q := fun q q1 q2 q3 => by rw [up2_ne _ _ _ q1, up2_ne _ _ _ q3, up2_ne _ _ _ q2]
    have mq : ∀ q, q ≠ 0 → q ≠ 7 → up2 (up2 (up2 μ 7 (2 * s) (nI j)) 7 (2 * s + 1) (nI d)) 0 9 (nI (s + 1)) q = μ q := fun q q1 q2 => by rw [up2_ne _ _ _ q1, up2_ne _ _ _ q2, up2_ne _ _ _ q2]
    have mk : ∀ k, k ≠ 9 → up2 (up2 (up2 μ 7 (2 * s) (nI j)) 7 (2 * s + 1) (nI d)) 0 9 (nI (s + 1)) 0 k = μ 0 k := fun k hk => by rw [up2_at, upd_ne _ _ hk, up2_ne _ _ _ (by decide), up2_ne _ _ _ (by decide)]
    have t6 : ∀ q, 6 ≤ q → q ≤ 11 → up2 (up2 (up2 σ 121 s (nI j)) 122 s (nI d)) 120 3 (nI (s + 1)) q = σ q := fun q _ _ => cq q (by omega) (by omega) (by omega)
    have co : ∀ a, a + 9 ≤ 120 → CoEq (up2 (up2 (up2 σ 121 s (nI j)) 122 s (nI d)) 120 3 (nI (s + 1))) a σ a := fun a ha => CoEq_of fun q _ _ => cq q (by omega) (by omega) (by omega)
    have m1 := mq 1 (by decide) (by decide)
    refine ⟨h.tok.cg t6, h.tol.cg hE hB t6 (fun k _ => by rw [m1]), h.cor.cg hE hB (co 12 (by decide)) (fun k _ => by rw [m1]), h.cok.cg hE hB (co 12 (by decide)), ?_, ?_, ?_, ?_, ?_, fun i hi => ?_, fun i hi => ?_, ⟨by omega, rfl, rfl⟩, fun i hi => ?_⟩
    · rw [cq 1 (by decide) (by decide) (by decide), mk 7 (by decide)]; exact h.tx
    · rw [cq 2 (by decide) (by decide) (by decide), mq 6 (by decide) (by decide)]; exact h.tl
    · rw [mq 6 (by decide) (by decide)]; exact h.tp
    · rw [cq 21 (by decide) (by decide) (by decide), mk 3 (by decide)]; exact h.un
    · rw [cq 21 (by decide) (by decide) (by decide)]; exact h.ne
    · exact (h.pa i hi).cg hE hB t6 (co _ (by omega)) (fun k _ => by rw [mq 3 (by decide) (by decide)])
    · rw [cq 114 (by decide) (by decide) (by decide), mq 5 (by decide) (by decide)]
      exact ⟨(h.ke i hi).1, fun z => ((h.ke i hi).2 z).cg hE hB t6 (co _ (by omega)) (fun k _ => by rw [mq 4 (by decide) (by decide)])⟩
    · have c1 : up2 (up2 (up2 σ 121 s (nI j)) 122 s (nI d)) 120 3 (nI (s + 1)) 121 = upd (σ 121) s (nI j) := by rw [up2_ne _ _ _ (by decide), up2_ne _ _ _ (by decide), up2_at]
      have c2 : up2 (up2 (up2 σ 121 s (nI j)) 122 s (nI d)) 120 3 (nI (s + 1)) 122 = upd (σ 122) s (nI d) := by rw [up2_ne _ _ _ (by decide), up2_at, up2_ne _ _ _ (by decide)]
      have c3 : up2 (up2 (up2 μ 7 (2 * s) (nI j)) 7 (2 * s + 1) (nI d)) 0 9 (nI (s + 1)) 7 = upd (upd (μ 7) (2 * s) (nI j)) (2 * s + 1) (nI d) := by rw [up2_ne _ _ _ (by decide), up2_at, up2_at]
      rw [c1, c2, c3]
      by_cases z : i = s
      · subst z
        exact ⟨⟨j, hj, upd_at _ _ _, by rw [upd_ne _ _ (by omega), upd_at]⟩, d, hd, upd_at _ _ _, upd_at _ _ _⟩
      · rw [upd_ne _ _ z, upd_ne _ _ z, upd_ne _ _ (by omega), upd_ne _ _ (by omega), upd_ne _ _ (by omega), upd_ne _ _ (by omega)]
        exact h.sg i (by omega)
  · obtain ⟨rfl, rfl⟩ := hc.2 (fun z => q (e1.symm.trans z))
    obtain ⟨rfl, rfl⟩ := hm.2 q
    exact ⟨e1, h.inv⟩
theorem op_forget (h : IV σ μ E B t L n x s) : σ 120 3 = μ 0 9 ∧ Inv (up2 σ 120 3 0) (up2 μ 0 9 0) := by
  refine ⟨h.si.2.1.trans h.si.2.2.symm, E, B, t, L, n, x, 0, ?_⟩
  have hE := h.tok.e.1
  have hB := h.tok.b.1
  have cq : ∀ q, q ≠ 120 → up2 σ 120 3 0 q = σ q := fun q q1 => up2_ne _ _ _ q1
  have mq : ∀ q, q ≠ 0 → up2 μ 0 9 0 q = μ q := fun q q1 => up2_ne _ _ _ q1
  have mk : ∀ k, k ≠ 9 → up2 μ 0 9 0 0 k = μ 0 k := fun k hk => by rw [up2_at, upd_ne _ _ hk]
  have t6 : ∀ q, 6 ≤ q → q ≤ 11 → up2 σ 120 3 0 q = σ q := fun q _ _ => cq q (by omega)
  have co : ∀ a, a + 9 ≤ 120 → CoEq (up2 σ 120 3 0) a σ a := fun a ha => CoEq_of fun q _ _ => cq q (by omega)
  have m1 := mq 1 (by decide)
  refine ⟨h.tok.cg t6, h.tol.cg hE hB t6 (fun k _ => by rw [m1]), h.cor.cg hE hB (co 12 (by decide)) (fun k _ => by rw [m1]), h.cok.cg hE hB (co 12 (by decide)), ?_, ?_, ?_, ?_, ?_, fun i hi => ?_, fun i hi => ?_, ⟨by omega, rfl, rfl⟩, fun i hi => absurd hi (by omega)⟩
  · rw [cq 1 (by decide), mk 7 (by decide)]; exact h.tx
  · rw [cq 2 (by decide), mq 6 (by decide)]; exact h.tl
  · rw [mq 6 (by decide)]; exact h.tp
  · rw [cq 21 (by decide), mk 3 (by decide)]; exact h.un
  · rw [cq 21 (by decide)]; exact h.ne
  · exact (h.pa i hi).cg hE hB t6 (co _ (by omega)) (fun k _ => by rw [mq 3 (by decide)])
  · rw [cq 114 (by decide), mq 5 (by decide)]
    exact ⟨(h.ke i hi).1, fun z => ((h.ke i hi).2 z).cg hE hB t6 (co _ (by omega)) (fun k _ => by rw [mq 4 (by decide)])⟩
theorem bool_d : ∀ d, d ≤ 1 → ∀ b : Bool, decide (nI d = bI b) = (decide (nI d = 1) == b) := by decide
theorem IV.ft (h : IV σ μ E B t L n x s) {buyer : Int32} {w : Nat} (hw : (buyer = nI w ∧ w < 5) ∨ (buyer = -1 ∧ w = 5)) : ∀ i, i ≤ s → ftS (σ 121) (σ 122) (σ 9) buyer i = ftM (μ 7) (mBk μ) w i
  | 0, _ => rfl
  | i + 1, hi => by
    obtain ⟨⟨b, hb, e1, e2⟩, d, hd, e3, e4⟩ := h.sg i (by omega)
    have hB := h.tok.b.1
    rw [ftS, ftM, h.ft hw i (by omega), e1, e2, e3, e4, toN_nI (by omega), nI_clamp (by omega), show mBk μ b = σ 9 b from (h.tol.bi b hb).1, bool_d d hd]
    congr 2
    unfold dwn
    rcases hw with ⟨rfl, h5⟩ | ⟨rfl, rfl⟩
    · rw [decide_eq_false (nI_nm1_big (show w < 2 ^ 31 by omega)), decide_eq_true h5, show decide (nI w = nI b) = decide (nI b = nI w) from decide_eq_decide.mpr eq_comm]; rfl
    · rfl
theorem tpM_tpS (T : Nat → Bool) (x0 : Int32) : ∀ n, tpM T x0 n = tpS T n ||| x0
  | 0 => by rw [tpM, tpS, Int32.or_comm, or_0]
  | n + 1 => by
    rw [tpM, tpS, tpM_tpS T x0 n]
    by_cases q : T n = true
    · rw [if_pos q, if_pos q, Int32.or_assoc, Int32.or_comm x0, ← Int32.or_assoc]
    · rw [if_neg q, if_neg q, or_0]
theorem op_buyers (h : IV σ μ E B t L n x s) : buS σ B s = buM μ B s := by
  have hB := h.tok.b.1
  unfold buS buM
  rw [tpM_tpS, ← h.ft (buyer := -1) (w := 5) (Or.inr ⟨rfl, rfl⟩) s (Nat.le_refl _)]
  rw [tpS_congr (T2 := fun b => ftM (μ 7) (mBk μ) b s) (fun b hb => h.ft (Or.inl ⟨rfl, by omega⟩) s (Nat.le_refl _))]
  by_cases q : ftS (σ 121) (σ 122) (σ 9) (-1) s = true
  · rw [if_pos q, if_pos q]
  · rw [if_neg q, if_neg q, or_0]
-- count
theorem cnB_congr {f g : Nat → Int32} : ∀ {n : Nat}, (∀ b, b < n → f b = g b) → cnB f n = cnB g n
  | 0, _ => rfl
  | n + 1, h => by rw [cnB, cnB, h n (by omega), cnB_congr (fun b hb => h b (by omega))]
theorem cnB_ext (f : Nat → Int32) (n : Nat) : ∀ m, (∀ b, n ≤ b → b < n + m → f b = -1) → cnB f (n + m) = cnB f n
  | 0, _ => rfl
  | m + 1, h => by rw [← Nat.add_assoc, cnB, if_pos (h (n + m) (by omega) (by omega)), cnB_ext f n m (fun b h1 h2 => h b h1 (by omega))]
theorem smI_ext (f : Nat → Int32) (n : Nat) : ∀ m, (∀ b, n ≤ b → b < n + m → f b = 0) → smI f (n + m) = smI f n
  | 0, _ => rfl
  | m + 1, h => by rw [← Nat.add_assoc, smI, h (n + m) (by omega) (by omega), Int32.add_zero, smI_ext f n m (fun b h1 h2 => h b h1 (by omega))]
theorem cnB_5 {f g : Nat → Int32} (hB : B ≤ 5) (h1 : NoB f B) (h2 : ∀ b, b < B → g b = f b) : cnB f 5 = cnB g B := by
  have e1 := cnB_ext f B (5 - B) (fun b h3 h4 => h1 b h3 (by omega))
  rw [show B + (5 - B) = 5 by omega] at e1
  rw [e1]; exact cnB_congr (fun b hb => (h2 b hb).symm)
theorem op_count (h : IV σ μ E B t L n x s) (w : Int32) : coA σ w = coM μ B w := by
  have hB := h.tok.b.1
  unfold coA coM
  have e6 : cnB (σ 15) 5 = cnB (mBd μ) B := cnB_5 hB h.noB (fun b hb => (h.cor.bi b hb).2.2)
  have e8 : smI (σ 14) 5 = smI (mJo μ) B := by
    have e1 := smI_ext (σ 14) B (5 - B) (fun b h3 h4 => (h.cok.no b h3 (by omega)).1)
    rw [show B + (5 - B) = 5 by omega] at e1
    rw [e1]; exact smI_congr (fun b hb => ((h.cor.bi b hb).2.1).symm)
  rw [e6, e8, h.tok.e.2, h.tok.b.2, h.tol.e, h.tol.b, h.tol.ru, h.tol.rs, h.tol.rf, h.cor.t, h.cor.p, h.si.2.1, h.si.2.2, h.un.2.1, h.un.2.2, h.tx.2.1, h.tx.2.2]
end PURE
