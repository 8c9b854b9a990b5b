def nmL (a b c d : Int32) : Int64 := 27 * (27 * (27 * a.toInt64 + b.toInt64) + c.toInt64) + d.toInt64
def lgL (v : Int64) (a b c : Int32) : Int64 := if c = 0 then (if b = 0 then 27 * v + a.toInt64 else 27 * (27 * v + a.toInt64) + b.toInt64) else 27 * (if b = 0 then 27 * v + a.toInt64 else 27 * (27 * v + a.toInt64) + b.toInt64) + c.toInt64
def wv (tx : Nat → Int32) (b : Nat) : Nat → Int64
  | 0 => 0
  | k + 1 => 27 * wv tx b k + (tx (b + k)).toInt64 - 96
abbrev kW0 : Int64 := nmL 23 5 19 20
abbrev kW1 : Int64 := lgL (nmL 3 12 5 1) 18 0 0
abbrev kW2 : Int64 := lgL (nmL 3 12 15 21) 4 25 0
abbrev kW3 : Int64 := lgL (nmL 19 13 15 11) 25 0 0
abbrev kW4 : Int64 := lgL (nmL 16 12 1 9) 14 0 0
abbrev kW5 : Int64 := lgL (nmL 2 12 9 14) 4 0 0
abbrev kW6 : Int64 := nmL 19 9 3 11
abbrev kW7 : Int64 := lgL (nmL 4 5 1 12) 5 18 0
abbrev kW8 : Int64 := lgL (nmL 6 9 18 19) 20 0 0
abbrev kW9 : Int64 := lgL (nmL 19 5 3 15) 14 4 0
abbrev kW10 : Int64 := lgL (nmL 18 5 19 5) 18 22 5
abbrev kW11 : Int64 := lgL (nmL 18 5 6 21) 14 4 0
abbrev kW12 : Int64 := lgL (nmL 14 9 7 8) 20 0 0
def evF (v : Int64) : Int32 := if v = kW1 then 1 else if v = kW2 then 2 else if v = kW3 then 3 else 0
def biF (v : Int64) : Int32 := if v = kW4 then 4 else if v = kW5 then 5 else if v = kW6 then 6 else if v = kW7 then 7 else 0
def ruF (v : Int64) : Int32 := if v = kW8 then 8 else if v = kW9 then 9 else if v = kW10 then 10 else if v = kW11 then 11 else if v = kW12 then 12 else 0
def clI (v : Int64) : Int32 := if v = kW0 then 0 else if evF v + biF v + ruF v = 0 then -1 else evF v + biF v + ruF v
/-- figures of 27, none of them 0 -/
def nv (f : Nat → Nat) : Nat → Nat
  | 0 => 0
  | k + 1 => 27 * nv f k + f k
theorem nv_lt (f : Nat → Nat) : ∀ n, (∀ i, i < n → f i ≤ 26) → nv f n < 27 ^ n
  | 0, _ => by simp [nv]
  | n + 1, h => by
    have ih := nv_lt f n (fun i hi => h i (by omega))
    have := h n (by omega)
    rw [nv, Nat.pow_succ]; omega
theorem nv_one (f h : Nat → Nat) : ∀ n m, (∀ i, i < n → 1 ≤ f i ∧ f i ≤ 26) → (∀ i, i < m → 1 ≤ h i ∧ h i ≤ 26) → nv f n = nv h m → n = m ∧ ∀ i, i < n → f i = h i
  | 0, 0, _, _, _ => ⟨rfl, fun i hi => absurd hi (by omega)⟩
  | 0, m + 1, _, h2, e => by
    have := h2 m (by omega)
    simp only [nv] at e; omega
  | n + 1, 0, h1, _, e => by
    have := h1 n (by omega)
    simp only [nv] at e; omega
  | n + 1, m + 1, h1, h2, e => by
    have a := h1 n (by omega)
    have b := h2 m (by omega)
    simp only [nv] at e
    have e1 : f n = h m := by omega
    have e2 : nv f n = nv h m := by omega
    obtain ⟨e3, e4⟩ := nv_one f h n m (fun i hi => h1 i (by omega)) (fun i hi => h2 i (by omega)) e2
    subst e3
    refine ⟨rfl, fun i hi => ?_⟩
    by_cases q : i = n
    · subst q; exact e1
    · exact e4 i (by omega)
/-- a letter's figure -/
def fgN (c : Int32) : Nat := (c - 96).toNatClampNeg
theorem srt1 {c : Int32} (h : srt c = 1) : ∃ k, 1 ≤ k ∧ k ≤ 26 ∧ c = nI (96 + k) := by
  unfold srt at h
  split at h
  · rename_i q
    have q1 : ¬ c < 97 := q.1
    have q2 : ¬ 122 < c := q.2
    have p0 : ¬ c < 0 := fun z => q1 (Int32.lt_of_lt_of_le z (by decide))
    obtain ⟨j, hj, rfl⟩ := nI_of p0
    have a : ¬ j < 97 := fun z => q1 ((nI_ltI (b := 97) hj (by decide)).mpr z)
    have b : ¬ 122 < j := fun z => q2 ((nI_ltI (a := 122) (by decide) hj).mpr z)
    exact ⟨j - 96, by omega, by omega, by congr 1; omega⟩
  · split at h
    · exact absurd h (by decide)
    · exact absurd h (by decide)
theorem srt2 {c : Int32} (h : srt c = 2) : ∃ k, k ≤ 9 ∧ c = nI (48 + k) := by
  unfold srt at h
  split at h
  · exact absurd h (by decide)
  · split at h
    · rename_i q
      have q1 : ¬ c < 48 := q.1
      have q2 : ¬ 57 < c := q.2
      have p0 : ¬ c < 0 := fun z => q1 (Int32.lt_of_lt_of_le z (by decide))
      obtain ⟨j, hj, rfl⟩ := nI_of p0
      have a : ¬ j < 48 := fun z => q1 ((nI_ltI (b := 48) hj (by decide)).mpr z)
      have b : ¬ 57 < j := fun z => q2 ((nI_ltI (a := 57) (by decide) hj).mpr z)
      exact ⟨j - 48, by omega, by congr 1; omega⟩
    · exact absurd h (by decide)
theorem exT_run {tx : Nat → Int32} {L : Nat} {s : Int32} : ∀ (f p x : Nat), p ≤ x → x < exT tx L s f p → srt (tx x) = s
  | 0, p, x, h1, h2 => absurd h2 (by rw [exT]; omega)
  | f + 1, p, x, h1, h2 => by
    rw [exT] at h2
    split at h2
    · rename_i q
      by_cases e : x = p
      · subst e; exact q.2
      · exact exT_run f (p + 1) x (by omega) h2
    · omega
theorem tkE_run {tx : Nat → Int32} {L b x : Nat} (hb : b < L) (hs : ¬ srt (tx b) = 0) (h1 : b ≤ x) (h2 : x < tkE tx L b) : srt (tx x) = srt (tx b) := by
  by_cases e : x = b
  · rw [e]
  · rw [tkE, if_pos hb, if_neg hs] at h2
    exact exT_run _ _ x (by omega) h2
theorem wv_nv {tx : Nat → Int32} {b : Nat} : ∀ n, n ≤ 8 → (∀ i, i < n → ∃ k, 1 ≤ k ∧ k ≤ 26 ∧ tx (b + i) = nI (96 + k)) → wv tx b n = lN (nv (fun i => fgN (tx (b + i))) n) ∧ ∀ i, i < n → 1 ≤ fgN (tx (b + i)) ∧ fgN (tx (b + i)) ≤ 26 ∧ tx (b + i) = nI (96 + fgN (tx (b + i)))
  | 0, _, _ => ⟨rfl, fun i hi => absurd hi (by omega)⟩
  | n + 1, hn, h => by
    obtain ⟨ih1, ih2⟩ := wv_nv n (by omega) (fun i hi => h i (by omega))
    obtain ⟨k, k1, k2, ek⟩ := h n (by omega)
    have ef : fgN (tx (b + n)) = k := by
      rw [fgN, ek, show nI (96 + k) - 96 = nI k from (pk_sub (a := 96 + k) (b := 96) (by omega)).trans (by congr 1; omega)]
      exact nI_clamp (by omega)
    refine ⟨?_, fun i hi => ?_⟩
    · rw [wv, nv, ih1]
      simp only [ef]
      rw [ek, nI_l (by omega), show (27 : Int64) = lN 27 from rfl, show (96 : Int64) = lN 96 from rfl, lN_mul, lN_add, lN_sub (by omega)]
      congr 1; omega
    · by_cases q : i = n
      · subst q; rw [ef]; exact ⟨k1, k2, ek⟩
      · exact ih2 i (by omega)
/-- the words' values -/
def kWn (w : Nat) : Nat := nv (fun i => fgN (sB w i)) (sL w)
theorem sB_fg : ∀ w, w < 13 → ∀ i, i < 7 → i < sL w → 1 ≤ fgN (sB w i) ∧ fgN (sB w i) ≤ 26 ∧ sB w i = nI (96 + fgN (sB w i)) := by decide +kernel
def kWl : List Int64 := [kW0, kW1, kW2, kW3, kW4, kW5, kW6, kW7, kW8, kW9, kW10, kW11, kW12]
theorem kWl_n : ∀ w, w < 13 → kWl[w]? = some (lN (kWn w)) ∧ kWn w < 2 ^ 62 ∧ 1 ≤ kWn w := by decide +kernel
/-- what word() answers at the token from b on -/
def wdV (tx : Nat → Int32) (L b : Nat) : Int64 := if ¬ mso (lat tx L b) = 1 then -1 else if 8 < tkE tx L b - b then -1 else wv tx b (tkE tx L b - b)
theorem lN_m1 {n : Nat} (h : n < 2 ^ 62) : ¬ lN n = -1 := by
  intro e
  have : (lN n).toInt = (-1 : Int64).toInt := by rw [e]
  rw [pk_lT (by omega)] at this
  have h2 : (-1 : Int64).toInt = -1 := by decide
  omega
theorem eqS_iff {tx : Nat → Int32} {b w : Nat} : ∀ n, eqS tx b w n = true ↔ ∀ i, i < n → tx (b + i) = sB w i
  | 0 => by simp [eqS]
  | n + 1 => by
    rw [eqS, Bool.and_eq_true, eqS_iff n, decide_eq_true_eq]
    constructor
    · rintro ⟨h1, h2⟩ i hi
      by_cases q : i = n
      · subst q; exact h2
      · exact h1 i (by omega)
    · intro h
      exact ⟨fun i hi => h i (by omega), h n (by omega)⟩
theorem p27 : 27 ^ 8 ≤ 2 ^ 63 := Nat.le_of_ble_eq_true rfl
theorem p62 {n : Nat} (h : n < 2 ^ 62) : n < 2 ^ 63 := Nat.lt_of_lt_of_le h (Nat.le_of_ble_eq_true rfl)
theorem all1 : ∀ w, w < 13 → srt (sB w 0) = 1 := by decide +kernel
theorem nv8 {f : Nat → Nat} {n : Nat} (hn : n ≤ 8) (h : ∀ i, i < n → f i ≤ 26) : nv f n < 2 ^ 63 := Nat.lt_of_lt_of_le (nv_lt f n h) (Nat.le_trans (Nat.pow_le_pow_right (Nat.le_of_ble_eq_true rfl) hn) p27)
theorem wd_eq {tx : Nat → Int32} {b n w : Nat} (hw : w < 13) (hn : n ≤ 8) (hall : ∀ i, i < n → ∃ k, 1 ≤ k ∧ k ≤ 26 ∧ tx (b + i) = nI (96 + k)) (h : wv tx b n = lN (kWn w)) : n = sL w ∧ ∀ i, i < sL w → tx (b + i) = sB w i := by
  have e12 := wv_nv (tx := tx) (b := b) n hn hall
  rw [e12.1] at h
  have h2 := (pk_lEQ (nv8 hn (fun i hi => (e12.2 i hi).2.1)) (p62 (kWl_n w hw).2.1)).mp h
  have s7 := (sL_le w hw).1
  have e34 := nv_one (fun i => fgN (tx (b + i))) (fun i => fgN (sB w i)) n (sL w) (fun i hi => ⟨(e12.2 i hi).1, (e12.2 i hi).2.1⟩) (fun i hi => ⟨(sB_fg w hw i (Nat.lt_of_lt_of_le hi s7) hi).1, (sB_fg w hw i (Nat.lt_of_lt_of_le hi s7) hi).2.1⟩) h2
  refine ⟨e34.1, fun i hi => ?_⟩
  have hi2 : i < n := by rw [e34.1]; exact hi
  have a1 := (e12.2 i hi2).2.2
  have a2 := (sB_fg w hw i (Nat.lt_of_lt_of_le hi s7) hi).2.2
  have a3 : fgN (tx (b + i)) = fgN (sB w i) := e34.2 i hi2
  rw [a1, a2, a3]
theorem wd_fwd {tx : Nat → Int32} {L b w : Nat} (hb : b ≤ L) (hpos : ∀ i, i < L → ¬ tx i < 0) (hw : w < 13) (h : wdV tx L b = lN (kWn w)) : tkE tx L b - b = sL w ∧ ∀ i, i < sL w → tx (b + i) = sB w i := by
  have hE := tkE_in (tx := tx) hb
  rw [wdV] at h
  by_cases c1 : mso (lat tx L b) = 1
  · rw [if_neg (Decidable.not_not.mpr c1)] at h
    by_cases c2 : 8 < tkE tx L b - b
    · rw [if_pos c2] at h; exact absurd h.symm (lN_m1 (kWl_n w hw).2.1)
    · rw [if_neg c2] at h
      have bL : b < L := by
        by_cases q : b < L
        · exact q
        · rw [lat, if_neg q, mso_m1] at c1; exact absurd c1 (by decide)
      have s1 : srt (tx b) = 1 := by rw [lat, if_pos bL] at c1; exact (mso_1 (hpos b bL)).mp c1
      exact wd_eq hw (by omega) (fun i hi => srt1 ((tkE_run bL (by rw [s1]; decide) (by omega) (by omega)).trans s1)) h
  · rw [if_pos c1] at h; exact absurd h.symm (lN_m1 (kWl_n w hw).2.1)
theorem kWn_def (w : Nat) : kWn w = nv (fun i => fgN (sB w i)) (sL w) := rfl
theorem wd_s1 {tx : Nat → Int32} {L b w : Nat} (hpos : ∀ i, i < L → ¬ tx i < 0) (hw : w < 13) (bL : b < L) (e0 : tx b = sB w 0) : mso (lat tx L b) = 1 := by
  rw [lat, if_pos bL]
  exact (mso_1 (hpos b bL)).mpr (by rw [e0]; exact all1 w hw)
theorem nv_congr {f h : Nat → Nat} : ∀ n, (∀ i, i < n → f i = h i) → nv f n = nv h n
  | 0, _ => rfl
  | n + 1, e => by
    have h1 : nv f n = nv h n := nv_congr n (fun i hi => e i (Nat.lt_succ_of_lt hi))
    have h2 : f n = h n := e n (Nat.lt_succ_self n)
    rw [nv, nv, h1, h2]
theorem wd_cg {tx : Nat → Int32} {b w : Nat} (h2 : ∀ i, i < sL w → tx (b + i) = sB w i) : ∀ n, n ≤ sL w → nv (fun i => fgN (tx (b + i))) n = nv (fun i => fgN (sB w i)) n :=
  fun n hn => nv_congr n (fun i hi => congrArg fgN (h2 i (Nat.lt_of_lt_of_le hi hn)))
theorem wd_wv {tx : Nat → Int32} {b w : Nat} (hw : w < 13) (h2 : ∀ i, i < sL w → tx (b + i) = sB w i) : wv tx b (sL w) = lN (nv (fun i => fgN (tx (b + i))) (sL w)) := by
  have h7 := sL_le w hw
  refine (wv_nv (tx := tx) (b := b) (sL w) (by omega) (fun i hi => ?_)).1
  have q := sB_fg w hw i (by omega) hi
  exact ⟨fgN (sB w i), q.1, q.2.1, (h2 i hi).trans q.2.2⟩
theorem wd_wv2 {tx : Nat → Int32} {b w : Nat} (hw : w < 13) (h2 : ∀ i, i < sL w → tx (b + i) = sB w i) : wv tx b (sL w) = lN (kWn w) := by
  rw [wd_wv hw h2, wd_cg h2 _ (Nat.le_refl _), kWn_def]
theorem wd_bwd {tx : Nat → Int32} {L b w : Nat} (hb : b ≤ L) (hpos : ∀ i, i < L → ¬ tx i < 0) (hw : w < 13) (h1 : tkE tx L b - b = sL w) (h2 : ∀ i, i < sL w → tx (b + i) = sB w i) : wdV tx L b = lN (kWn w) := by
  have hE := tkE_in (tx := tx) hb
  have h7 := sL_le w hw
  have bL : b < L := by omega
  have c1 : mso (lat tx L b) = 1 := wd_s1 hpos hw bL (h2 0 (by omega))
  have c2 : ¬ 8 < tkE tx L b - b := by omega
  unfold wdV
  rw [if_neg (Decidable.not_not.mpr c1), if_neg c2, h1]
  exact wd_wv2 hw h2
theorem wd_iff {tx : Nat → Int32} {L b w : Nat} (hb : b ≤ L) (hpos : ∀ i, i < L → ¬ tx i < 0) (hw : w < 13) : wdV tx L b = lN (kWn w) ↔ tkQ tx b (tkE tx L b) w = true := by
  rw [tkQ, Bool.and_eq_true, decide_eq_true_eq, eqS_iff]
  exact ⟨fun h => wd_fwd hb hpos hw h, fun h => wd_bwd hb hpos hw h.1 h.2⟩
theorem clI_K : ∀ w, w < 13 → ∀ v, kWl[w]? = some v → clI v = nI w := by decide +kernel
theorem clI_no {v : Int64} (h : ∀ w, w < 13 → ¬ kWl[w]? = some v) : clI v = -1 := by
  have n0 : ¬ v = kW0 := fun e => h 0 (by decide) (by rw [e]; rfl)
  have n1 : ¬ v = kW1 := fun e => h 1 (by decide) (by rw [e]; rfl)
  have n2 : ¬ v = kW2 := fun e => h 2 (by decide) (by rw [e]; rfl)
  have n3 : ¬ v = kW3 := fun e => h 3 (by decide) (by rw [e]; rfl)
  have n4 : ¬ v = kW4 := fun e => h 4 (by decide) (by rw [e]; rfl)
  have n5 : ¬ v = kW5 := fun e => h 5 (by decide) (by rw [e]; rfl)
  have n6 : ¬ v = kW6 := fun e => h 6 (by decide) (by rw [e]; rfl)
  have n7 : ¬ v = kW7 := fun e => h 7 (by decide) (by rw [e]; rfl)
  have n8 : ¬ v = kW8 := fun e => h 8 (by decide) (by rw [e]; rfl)
  have n9 : ¬ v = kW9 := fun e => h 9 (by decide) (by rw [e]; rfl)
  have n10 : ¬ v = kW10 := fun e => h 10 (by decide) (by rw [e]; rfl)
  have n11 : ¬ v = kW11 := fun e => h 11 (by decide) (by rw [e]; rfl)
  have n12 : ¬ v = kW12 := fun e => h 12 (by decide) (by rw [e]; rfl)
  simp only [clI, evF, biF, ruF, n0, n1, n2, n3, n4, n5, n6, n7, n8, n9, n10, n11, n12, if_false]
  rfl
/-- the reference knows the same words -/
theorem clI_wd {tx : Nat → Int32} {L b : Nat} (hb : b ≤ L) (hpos : ∀ i, i < L → ¬ tx i < 0) : clI (wdV tx L b) = wdI (wdN tx b (tkE tx L b)) := by
  have hle := wdN_le tx b (tkE tx L b)
  by_cases h : wdN tx b (tkE tx L b) < 13
  · have hy := fsW_yes (tkQ tx b (tkE tx L b)) 13 0 (by simpa [wdN] using h)
    have e1 : wdV tx L b = lN (kWn (wdN tx b (tkE tx L b))) := (wd_iff hb hpos h).mpr hy
    rw [wdI, if_pos h]
    exact clI_K _ h _ (by rw [e1]; exact (kWl_n _ h).1)
  · rw [wdI, if_neg h]
    refine clI_no (fun w hw e => ?_)
    have e2 : wdV tx L b = lN (kWn w) := by rw [(kWl_n w hw).1] at e; exact (Option.some.inj e).symm
    have hy := (wd_iff hb hpos hw).mp e2
    have h13 : fsW (tkQ tx b (tkE tx L b)) 13 0 = 13 := by
      have h9 : wdN tx b (tkE tx L b) = 13 := by omega
      exact h9
    have hn := fsW_no (tkQ tx b (tkE tx L b)) 13 0 w (Nat.zero_le _) (by rw [h13]; exact hw)
    rw [hy] at hn
    exact absurd hn (by decide)
/-- numbers of a text -/
theorem nmT_val {tx : Nat → Int32} {L b : Nat} (hb : b ≤ L) (top : Int32) : nmT tx b (tkE tx L b) top = -1 ∨ ∃ v, v ≤ 99 ∧ nmT tx b (tkE tx L b) top = nI v ∧ ¬ top < nI v := by
  have hE := tkE_in (tx := tx) hb
  unfold nmT
  split
  · exact Or.inl rfl
  · rename_i q
    have q1 : ¬ tkE tx L b - b < 1 := fun z => q (Or.inl z)
    have q2 : ¬ 2 < tkE tx L b - b := fun z => q (Or.inr (Or.inl z))
    have q3 : srt (tx b) = 2 := Decidable.not_not.mp (fun z => q (Or.inr (Or.inr z)))
    have bL : b < L := by omega
    obtain ⟨k, hk, ek⟩ := srt2 q3
    have f1 : tx b - 48 = nI k := by rw [ek]; exact (pk_sub (a := 48 + k) (b := 48) (by omega)).trans (by congr 1; omega)
    split
    · rename_i q4
      obtain ⟨k2, hk2, ek2⟩ := srt2 ((tkE_run (x := b + 1) bL (by rw [q3]; decide) (by omega) (by omega)).trans q3)
      have f2 : 10 * (tx b - 48) + tx (b + 1) - 48 = nI (10 * k + k2) := by
        rw [f1, ek2, show (10 : Int32) = nI 10 from rfl, pk_mul, nI_add]
        exact (pk_sub (b := 48) (by omega)).trans (by congr 1; omega)
      rw [f2]
      split
      · exact Or.inl rfl
      · rename_i q5; exact Or.inr ⟨10 * k + k2, by omega, rfl, q5⟩
    · rw [f1]
      split
      · exact Or.inl rfl
      · rename_i q5; exact Or.inr ⟨k, by omega, rfl, q5⟩
