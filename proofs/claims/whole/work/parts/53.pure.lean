section PURE
variable {σ μ σ' μ' : Mem} {E B t L n x s : Nat}
/-- only what stands now has changed -/
theorem IV.now (h : IV σ μ E B t L n x s) {t2 : Nat} (hc : ∀ q, q < 12 ∨ 20 < q → σ' q = σ q) (hm : ∀ q, q ≠ 1 → q ≠ 8 → μ' q = μ q) (a1 : TolR σ (μ' 1) E B) (a2 : CoR σ' 12 (μ' 1) E B) (a3 : CoOk σ' 12 E B t2) : IV σ' μ' E B t2 L n x s := by
  have hE := h.tok.e.1
  have hB := h.tok.b.1
  have t6 : ∀ q, 6 ≤ q → q ≤ 11 → σ' q = σ q := fun q _ _ => hc q (by omega)
  have m0 := hm 0 (by decide) (by decide)
  refine ⟨h.tok.cg t6, a1.cg hE hB t6 (fun _ _ => rfl), a2, a3, ?_, ?_, ?_, ?_, ?_, fun i hi => ?_, fun j hj => ?_, ?_, ?_⟩
  · rw [hc 1 (by omega), m0]; exact h.tx
  · rw [hc 2 (by omega), hm 6 (by decide) (by decide)]; exact h.tl
  · rw [hm 6 (by decide) (by decide)]; exact h.tp
  · rw [hc 21 (by omega), m0]; exact h.un
  · rw [hc 21 (by omega)]; exact h.ne
  · exact (h.pa i hi).cg hE hB t6 (CoEq_of fun q _ _ => hc q (by omega)) (fun k _ => by rw [hm 3 (by decide) (by decide)])
  · rw [hc 114 (by omega), hm 5 (by decide) (by decide)]
    exact ⟨(h.ke j hj).1, fun z => ((h.ke j hj).2 z).cg hE hB t6 (CoEq_of fun q _ _ => hc q (by omega)) (fun k _ => by rw [hm 4 (by decide) (by decide)])⟩
  · rw [hc 120 (by omega), m0]; exact h.si
  · rw [hc 121 (by omega), hc 122 (by omega), hm 7 (by decide) (by decide)]; exact h.sg
theorem IV.row (h : IV σ μ E B t L n x s) : RowR σ 12 (μ 1) E B := ⟨t, h.tol, h.cor, h.cok⟩
/-- now is remembered and noted -/
theorem IV.note (h : IV σ μ E B t L n x s) (hc : RemQ σ' σ x n) (hm : NoQ μ' μ n) : IV σ' μ' E B t L ((if n < 8 then n else 7) + 1) ((x + 1) % 8) s := by
  have hE := h.tok.e.1
  have hB := h.tok.b.1
  have hn := h.un.1
  have hx := h.ne.1
  obtain ⟨c1, c2, c3, c4⟩ := hc
  obtain ⟨m1, m2, m3, m4, m5⟩ := hm
  have t6 : ∀ q, 6 ≤ q → q ≤ 11 → σ' q = σ q := fun q _ _ => c4 q (by omega) (by omega)
  have co : ∀ a, 12 ≤ a → a ≠ 21 → a + 9 ≤ 21 ∨ 21 < a → a + 9 ≤ 23 + 9 * x ∨ 23 + 9 * x + 9 ≤ a → CoEq σ' a σ a := fun a h1 h2 h3 h4 => CoEq_of fun q _ _ => c4 q (by omega) (by omega)
  have e1 := m5 1 (by decide) (by decide)
  have c12 := co 12 (by decide) (by decide) (by omega) (by omega)
  refine ⟨h.tok.cg t6, h.tol.cg hE hB t6 (fun k _ => by rw [e1]), h.cor.cg hE hB c12 (fun k _ => by rw [e1]), h.cok.cg hE hB c12, ?_, ?_, ?_, ⟨?_, ?_, m3⟩, ⟨Nat.mod_lt _ (by decide), c3⟩, fun i hi => ?_, fun j hj => ?_, ?_, ?_⟩
  · rw [c4 1 (by decide) (by omega), m4 7 (by decide)]; exact h.tx
  · rw [c4 2 (by decide) (by omega), m5 6 (by decide) (by decide)]; exact h.tl
  · rw [m5 6 (by decide) (by decide)]; exact h.tp
  · split <;> omega
  · rw [c2]; by_cases q : n < 8
    · rw [if_pos q, if_pos q]
    · rw [if_neg q, if_neg q]
  · by_cases q : n < 8
    · rw [if_pos q] at hi ⊢
      by_cases q2 : i = n
      · subst q2
        have e2 : ((x + 1) % 8 + (8 - (i + 1)) + i) % 8 = x := by omega
        rw [e2]
        refine h.row.cg hE hB t6 c1 (fun k hk => ?_)
        have := m2 k hk
        rw [if_pos q] at this; exact this
      · have e2 : ((x + 1) % 8 + (8 - (n + 1)) + i) % 8 = (x + (8 - n) + i) % 8 := by omega
        rw [e2]
        refine (h.pa i (by omega)).cg hE hB t6 (co _ (by omega) (by omega) (by omega) (by omega)) (fun k hk => ?_)
        have := m1 i k hk (by rw [if_pos q]; omega)
        rw [if_pos q] at this; exact this
    · have e8 : n = 8 := by omega
      subst e8
      rw [if_neg q] at hi ⊢
      by_cases q2 : i = 7
      · subst q2
        have e2 : ((x + 1) % 8 + (8 - (7 + 1)) + 7) % 8 = x := by omega
        rw [e2]
        refine h.row.cg hE hB t6 c1 (fun k hk => ?_)
        have := m2 k hk
        rw [if_neg q] at this; exact this
      · have e2 : ((x + 1) % 8 + (8 - (7 + 1)) + i) % 8 = (x + (8 - 8) + (i + 1)) % 8 := by omega
        rw [e2]
        refine (h.pa (i + 1) (by omega)).cg hE hB t6 (co _ (by omega) (by omega) (by omega) (by omega)) (fun k hk => ?_)
        have := m1 i k hk (by rw [if_neg q]; omega)
        rw [if_neg q] at this; exact this
  · rw [c4 114 (by decide) (by omega), m5 5 (by decide) (by decide)]
    exact ⟨(h.ke j hj).1, fun z => ((h.ke j hj).2 z).cg hE hB t6 (co _ (by omega) (by omega) (by omega) (by omega)) (fun k _ => by rw [m5 4 (by decide) (by decide)])⟩
  · rw [c4 120 (by decide) (by omega), m4 9 (by decide)]; exact h.si
  · rw [c4 121 (by decide) (by omega), c4 122 (by decide) (by omega), m5 7 (by decide) (by decide)]; exact h.sg
theorem inL_m1 (n : Int32) : (¬ n = -1 ∧ inW n 99 = false) ↔ inL n (-1) 99 = false := by
  have a1 : n < 0 ↔ n.toInt < 0 := Int32.lt_iff_toInt_lt
  have a2 : n < -1 ↔ n.toInt < -1 := Int32.lt_iff_toInt_lt
  have a3 : n = -1 ↔ n.toInt = -1 := Int32.toInt_inj.symm
  unfold inW inL
  by_cases q1 : n < 0 <;> by_cases q2 : n < -1 <;> by_cases q3 : n = -1 <;> by_cases q4 : 99 < n <;> simp [q1, q2, q3, q4, -Int32.not_lt] <;> first | (exfalso; subst q3; revert q4; decide) | (rw [a1] at q1; rw [a2] at q2; rw [a3] at q3; omega) | (subst q3; revert q2; decide)
theorem TolR.keep {f f2 : Nat → Int32} (h : TolR σ f E B) (hE : E ≤ 7) (hB : B ≤ 5) (h2 : ∀ k, k < 2 ∨ (3 ≤ k ∧ k < 6) ∨ (7 ≤ k ∧ k < 70 ∧ (k - 7) % 9 < 2) ∨ (70 ≤ k ∧ (k - 70) % 6 < 3) → f2 k = f k) : TolR σ f2 E B := by
  refine ⟨(h2 0 (by omega)).trans h.e, (h2 1 (by omega)).trans h.b, ?_, ?_, ?_, fun i hi => ?_, fun j hj => ?_⟩
  · rw [h2 3 (by omega)]; exact h.ru
  · rw [h2 4 (by omega)]; exact h.rs
  · rw [h2 5 (by omega)]; exact h.rf
  · rw [h2 _ (by omega), h2 _ (by omega)]; exact h.ev i hi
  · rw [h2 _ (by omega), h2 _ (by omega), h2 _ (by omega)]; exact h.bi j hj
theorem op_bid (h : IV σ μ E B t L n x s) {b v v1 v2 : Int32} (hc : (bdC σ b v = 0 → ∃ (σ1 : Mem) (j : Nat), j < B ∧ b = nI j ∧ RemQ σ1 σ x n ∧ σ' = up2 σ1 15 j v ∧ v1 = nI (cnB (σ' 15) 5)) ∧ (¬ bdC σ b v = 0 → v1 = bdC σ b v ∧ σ' = σ))
    (hm : (bdM μ b v = 0 → ∃ (μ1 : Mem) (j : Nat), j < B ∧ b = nI j ∧ NoQ μ1 μ n ∧ μ' = up2 μ1 1 (70 + 6 * j + 5) v ∧ v2 = nI (cnB (mBd μ') B)) ∧ (¬ bdM μ b v = 0 → v2 = bdM μ b v ∧ μ' = μ)) : v1 = v2 ∧ Inv σ' μ' := by
  have hE := h.tok.e.1
  have hB := h.tok.b.1
  have e1 : bdC σ b v = bdM μ b v := by
    unfold bdC bdM
    rw [(h.inB b).1, (h.inB b).2, h.nit.1, h.nit.2]
    by_cases q : inR b (nI B) = false
    · rw [if_pos q, if_pos q]
    · rw [if_neg q, if_neg q]
      by_cases q2 : inL v (-1) 99 = false
      · rw [if_pos q2, if_pos ((inL_m1 v).mpr q2)]
      · rw [if_neg q2, if_neg (fun z => q2 ((inL_m1 v).mp z))]
        obtain ⟨j, hj, rfl⟩ := inR_of (x := b) (n := B) (by simpa using q) (by omega)
        rw [toN_nI (by omega), nI_clamp (by omega), (h.cor.bi j hj).1]
  by_cases q : bdM μ b v = 0
  · obtain ⟨σ1, j, hj, rfl, hr, rfl, rfl⟩ := hc.1 (e1.trans q)
    obtain ⟨μ1, j2, hj2, ej2, hno, rfl, rfl⟩ := hm.1 q
    have e2 : j = j2 := (nI_eq (by omega) (by omega)).mp ej2
    subst e2
    have qb : ¬ inR (nI j) (nI B) = false := by
      intro z; rw [bdM, (h.inB _).2, if_pos z] at q; exact absurd q (by decide)
    have ql : ¬ inL v (-1) 99 = false := by
      intro z; rw [bdM, (h.inB _).2, if_neg qb, if_pos z] at q; exact absurd q (by decide)
    have qp : ¬ μ 1 (70 + 6 * j + 3) < v := by
      intro z; rw [bdM, (h.inB _).2, if_neg qb, if_neg ql, toN_nI (by omega), if_pos z] at q; exact absurd q (by decide)
    have hv : v = -1 ∨ ∃ y, y ≤ 99 ∧ v = nI y := by
      by_cases z : v = -1
      · exact Or.inl z
      · have : inW v 99 = true := by
          cases z2 : inW v 99 with
          | true => rfl
          | false => exact absurd ((inL_m1 v).mp ⟨z, z2⟩) ql
        obtain ⟨y, hy, ey⟩ := inW_of (n := 99) this (by decide)
        exact Or.inr ⟨y, hy, ey⟩
    have g := h.note hr hno
    have hpu : μ 1 (70 + 6 * j + 3) = σ 13 j := (h.cor.bi j hj).1
    have s13 : σ1 13 = σ 13 := hr.2.2.2 13 (by decide) (by omega)
    have iv : IV (up2 σ1 15 j v) (up2 μ1 1 (70 + 6 * j + 5) v) E B t L ((if n < 8 then n else 7) + 1) ((x + 1) % 8) s := by
      refine g.now (fun q hq => up2_ne _ _ _ (by omega)) (fun q q1 _ => up2_ne _ _ _ q1) ?_ ?_ ?_
      · rw [up2_at]; exact g.tol.keep hE hB (fun k hk => upd_ne _ _ (by omega))
      · rw [up2_at]
        refine ⟨?_, ?_, fun i hi => ?_, fun i hi => ?_⟩
        · rw [upd_ne _ _ (by omega), up2_ne _ _ _ (by decide)]; exact g.cor.t
        · rw [upd_ne _ _ (by omega), up2_ne _ _ _ (by decide)]; exact g.cor.p
        · rw [upd_ne _ _ (by omega), upd_ne _ _ (by omega), up2_ne σ1 _ _ (show 12 + 1 ≠ 15 by decide), up2_ne σ1 _ _ (show 12 + 2 ≠ 15 by decide)]
          refine ⟨(g.cor.bi i hi).1, (g.cor.bi i hi).2.1, ?_⟩
          show _ = up2 σ1 15 j v 15 i
          rw [up2_at]
          by_cases z : i = j
          · subst z; rw [upd_at, upd_at]
          · rw [upd_ne _ _ (by omega), upd_ne _ _ z]; exact (g.cor.bi i hi).2.2
        · rw [up2_ne σ1 _ _ (show 12 + 4 ≠ 15 by decide), up2_ne σ1 _ _ (show 12 + 5 ≠ 15 by decide), up2_ne σ1 _ _ (show 12 + 6 ≠ 15 by decide), up2_ne σ1 _ _ (show 12 + 7 ≠ 15 by decide), up2_ne σ1 _ _ (show 12 + 8 ≠ 15 by decide)]
          obtain ⟨g1, g2, g3, g4, g5⟩ := g.cor.ev i hi
          exact ⟨(upd_ne _ _ (by omega)).trans g1, (upd_ne _ _ (by omega)).trans g2, (upd_ne _ _ (by omega)).trans g3, (upd_ne _ _ (by omega)).trans g4, fun k hk => (upd_ne _ _ (by omega)).trans (g5 k hk)⟩
      · refine ⟨⟨g.cok.t.1, ?_⟩, fun i hi => ?_, fun i h1 h2 => ?_, fun i hi => ?_, fun i h1 h2 => ?_⟩
        · rw [up2_ne _ _ _ (by decide)]; exact g.cok.t.2
        · rw [up2_ne σ1 _ _ (show 12 + 1 ≠ 15 by decide)]
          obtain ⟨pu, p1, p2, p3⟩ := g.cok.bi i hi
          refine ⟨pu, p1, p2, ?_⟩
          show up2 σ1 15 j v 15 i = -1 ∨ ∃ y, y ≤ 99 ∧ y ≤ pu ∧ up2 σ1 15 j v 15 i = nI y
          rw [up2_at]
          by_cases z : i = j
          · subst z
            rw [upd_at]
            refine hv.imp id (fun ⟨y, y1, y2⟩ => ⟨y, y1, ?_, y2⟩)
            rw [hpu, ← s13, show σ1 13 i = nI pu from p2, y2] at qp
            have := (nI_leI (a := y) (b := pu) (by omega) p1).mp (Int32.not_lt.mp qp)
            exact this
          · rw [upd_ne _ _ z]; exact p3
        · rw [up2_ne σ1 _ _ (show 12 + 2 ≠ 15 by decide)]
          refine ⟨(g.cok.no i h1 h2).1, ?_⟩
          show up2 σ1 15 j v 15 i = -1
          rw [up2_at, upd_ne _ _ (by omega)]; exact (g.cok.no i h1 h2).2
        · rw [up2_ne σ1 _ _ (show 12 + 7 ≠ 15 by decide)]; exact g.cok.ou i hi
        · rw [up2_ne σ1 _ _ (show 12 + 5 ≠ 15 by decide)]; exact g.cok.fu i h1 h2
    refine ⟨?_, iv.inv⟩
    rw [cnB_5 (g := mBd (up2 μ1 1 (70 + 6 * j + 5) v)) hB iv.noB (fun b hb => (iv.cor.bi b hb).2.2)]
  · obtain ⟨rfl, rfl⟩ := hc.2 (fun z => q (e1.symm.trans z))
    obtain ⟨rfl, rfl⟩ := hm.2 q
    exact ⟨e1, h.inv⟩
/-- a place of now that no number is held to is set on both sides -/
theorem IV.set (g : IV σ μ E B t L n x s) {c i k : Nat} {v : Int32} (hk : (c = 16 ∧ i < 7 ∧ k = 7 + 9 * i + 2) ∨ (c = 20 ∧ ∃ w e, w < 3 ∧ e < 7 ∧ i = w * 7 + e ∧ k = 7 + 9 * e + 6 + w)) : IV (up2 σ c i v) (up2 μ 1 k v) E B t L n x s := by
  have hE := g.tok.e.1
  have hB := g.tok.b.1
  have hk2 : 7 ≤ k ∧ k < 70 ∧ ((k - 7) % 9 = 2 ∨ 6 ≤ (k - 7) % 9) := by
    rcases hk with ⟨_, h1, h2⟩ | ⟨_, w, e, h1, h2, _, h4⟩
    · omega
    · have e5 : k - 7 = 9 * e + (6 + w) := by omega
      have e6 : (9 * e + (6 + w)) % 9 = 6 + w := by omega
      rw [e5, e6]; omega
  have hc9 : c = 16 ∨ c = 20 := hk.imp And.left And.left
  refine g.now (fun q hq => up2_ne _ _ _ (by omega)) (fun q q1 _ => up2_ne _ _ _ q1) ?_ ?_ ?_
  · rw [up2_at]; exact g.tol.keep hE hB (fun k2 hk2 => upd_ne _ _ (by omega))
  · rw [up2_at]
    refine ⟨?_, ?_, fun j hj => ?_, fun e he => ?_⟩
    · rw [upd_ne _ _ (by omega), up2_ne _ _ _ (by omega)]; exact g.cor.t
    · rw [upd_ne _ _ (by omega), up2_ne _ _ _ (by omega)]; exact g.cor.p
    · rw [upd_ne _ _ (by omega), upd_ne _ _ (by omega), upd_ne _ _ (by omega), up2_ne _ _ _ (show 12 + 1 ≠ c by omega), up2_ne _ _ _ (show 12 + 2 ≠ c by omega), up2_ne _ _ _ (show 12 + 3 ≠ c by omega)]
      exact g.cor.bi j hj
    · obtain ⟨g1, g2, g3, g4, g5⟩ := g.cor.ev e he
      refine ⟨?_, ?_, ?_, ?_, fun w hw => ?_⟩
      · rcases hk with ⟨rfl, h1, h2⟩ | ⟨rfl, w, e2, h1, h2, h3, h4⟩
        · show _ = up2 σ 16 i v 16 e
          rw [up2_at]
          by_cases z : e = i
          · subst z; rw [h2, upd_at, upd_at]
          · rw [upd_ne _ _ (by omega), upd_ne _ _ z]; exact g1
        · rw [upd_ne _ _ (by omega), up2_ne _ _ _ (by decide)]; exact g1
      · rw [upd_ne _ _ (by omega), up2_ne _ _ _ (by omega)]; exact g2
      · rw [upd_ne _ _ (by omega), up2_ne _ _ _ (by omega)]; exact g3
      · rw [upd_ne _ _ (by omega), up2_ne _ _ _ (by omega)]; exact g4
      · rcases hk with ⟨rfl, h1, h2⟩ | ⟨rfl, w2, e2, h1, h2, h3, h4⟩
        · rw [upd_ne _ _ (by omega), up2_ne _ _ _ (by decide)]; exact g5 w hw
        · show _ = up2 σ 20 i v 20 (w * 7 + e)
          rw [up2_at]
          by_cases z : w = w2 ∧ e = e2
          · obtain ⟨rfl, rfl⟩ := z
            rw [h3, h4, upd_at, upd_at]
          · rw [upd_ne _ _ (by omega), upd_ne _ _ (by omega)]; exact g5 w hw
  · refine ⟨⟨g.cok.t.1, ?_⟩, fun j hj => ?_, fun j h1 h2 => ?_, fun i hi => ?_, fun i h1 h2 => ?_⟩
    · rw [up2_ne _ _ _ (by omega)]; exact g.cok.t.2
    · rw [up2_ne _ _ _ (show 12 + 1 ≠ c by omega), up2_ne _ _ _ (show 12 + 3 ≠ c by omega)]; exact g.cok.bi j hj
    · rw [up2_ne _ _ _ (show 12 + 2 ≠ c by omega), up2_ne _ _ _ (show 12 + 3 ≠ c by omega)]; exact g.cok.no j h1 h2
    · rw [up2_ne _ _ _ (show 12 + 7 ≠ c by omega)]; exact g.cok.ou i hi
    · rw [up2_ne _ _ _ (show 12 + 5 ≠ c by omega)]; exact g.cok.fu i h1 h2
theorem op_price (h : IV σ μ E B t L n x s) {e v v1 v2 : Int32} (hc : (prC σ e v = 0 → ∃ (σ1 : Mem) (j : Nat), j < E ∧ e = nI j ∧ RemQ σ1 σ x n ∧ σ' = up2 σ1 16 j v ∧ v1 = σ1 16 j) ∧ (¬ prC σ e v = 0 → v1 = prC σ e v ∧ σ' = σ))
    (hm : (prM μ e v = 0 → ∃ (μ1 : Mem) (j : Nat), j < E ∧ e = nI j ∧ NoQ μ1 μ n ∧ μ' = up2 μ1 1 (7 + 9 * j + 2) v ∧ v2 = μ1 1 (7 + 9 * j + 2)) ∧ (¬ prM μ e v = 0 → v2 = prM μ e v ∧ μ' = μ)) : v1 = v2 ∧ Inv σ' μ' := by
  have hE := h.tok.e.1
  have e1 : prC σ e v = prM μ e v := by unfold prC prM; rw [(h.inE e).1, (h.inE e).2]
  by_cases q : prM μ e v = 0
  · obtain ⟨σ1, j, hj, rfl, hr, rfl, rfl⟩ := hc.1 (e1.trans q)
    obtain ⟨μ1, j2, hj2, ej2, hno, rfl, rfl⟩ := hm.1 q
    have e2 : j = j2 := (nI_eq (by omega) (by omega)).mp ej2
    subst e2
    have g := h.note hr hno
    exact ⟨(g.cor.ev j (by omega)).1.symm, (g.set (Or.inl ⟨rfl, by omega, rfl⟩)).inv⟩
  · obtain ⟨rfl, rfl⟩ := hc.2 (fun z => q (e1.symm.trans z))
    obtain ⟨rfl, rfl⟩ := hm.2 q
    exact ⟨e1, h.inv⟩
theorem op_says (h : IV σ μ E B t L n x s) {k e v v1 v2 : Int32} (hc : (syC σ k e v = 0 → ∃ (σ1 : Mem) (i j : Nat), i < 3 ∧ k = nI i ∧ j < E ∧ e = nI j ∧ RemQ σ1 σ x n ∧ σ' = up2 σ1 20 (i * 7 + j) v ∧ v1 = σ1 20 (i * 7 + j)) ∧ (¬ syC σ k e v = 0 → v1 = syC σ k e v ∧ σ' = σ))
    (hm : (syM μ k e v = 0 → ∃ (μ1 : Mem) (i j : Nat), i < 3 ∧ k = nI i ∧ j < E ∧ e = nI j ∧ NoQ μ1 μ n ∧ μ' = up2 μ1 1 (7 + 9 * j + 6 + i) v ∧ v2 = μ1 1 (7 + 9 * j + 6 + i)) ∧ (¬ syM μ k e v = 0 → v2 = syM μ k e v ∧ μ' = μ)) : v1 = v2 ∧ Inv σ' μ' := by
  have hE := h.tok.e.1
  have e1 : syC σ k e v = syM μ k e v := by unfold syC syM; rw [(h.inE e).1, (h.inE e).2, h.cor.t]
  by_cases q : syM μ k e v = 0
  · obtain ⟨σ1, i, j, hi, rfl, hj, rfl, hr, rfl, rfl⟩ := hc.1 (e1.trans q)
    obtain ⟨μ1, i2, j2, hi2, ei2, hj2, ej2, hno, rfl, rfl⟩ := hm.1 q
    have e2 : j = j2 := (nI_eq (by omega) (by omega)).mp ej2
    have e3 : i = i2 := (nI_eq (by omega) (by omega)).mp ei2
    subst e2
    subst e3
    have g := h.note hr hno
    exact ⟨((g.cor.ev j (by omega)).2.2.2.2 i hi).symm, (g.set (Or.inr ⟨rfl, i, j, hi, by omega, rfl, rfl⟩)).inv⟩
  · obtain ⟨rfl, rfl⟩ := hc.2 (fun z => q (e1.symm.trans z))
    obtain ⟨rfl, rfl⟩ := hm.2 q
    exact ⟨e1, h.inv⟩
theorem op_undo (h : IV σ μ E B t L n x s) {v1 v2 : Int32} (hc : (n = 0 → v1 = -4 ∧ σ' = σ) ∧ (¬ n = 0 → v1 = nI (n - 1) ∧ CoEq σ' 12 σ (23 + 9 * ((x + 7) % 8)) ∧ σ' 21 1 = nI (n - 1) ∧ σ' 21 2 = nI ((x + 7) % 8) ∧ ∀ q, q ≠ 21 → q < 12 ∨ 21 ≤ q → σ' q = σ q))
    (hm : (n = 0 → v2 = -4 ∧ μ' = μ) ∧ (¬ n = 0 → v2 = nI (n - 1) ∧ (∀ k, k < 100 → μ' 1 k = μ 3 (100 * (n - 1) + k)) ∧ μ' 0 = upd (μ 0) 3 (nI (n - 1)) ∧ ∀ q, q ≠ 0 → q ≠ 1 → μ' q = μ q)) : v1 = v2 ∧ Inv σ' μ' := by
  have hE := h.tok.e.1
  have hB := h.tok.b.1
  have hn := h.un.1
  have hx := h.ne.1
  by_cases q : n = 0
  · obtain ⟨rfl, rfl⟩ := hc.1 q
    obtain ⟨rfl, rfl⟩ := hm.1 q
    exact ⟨rfl, h.inv⟩
  · obtain ⟨rfl, c1, c2, c3, c4⟩ := hc.2 q
    obtain ⟨rfl, m1, m2, m3⟩ := hm.2 q
    have t6 : ∀ q, 6 ≤ q → q ≤ 11 → σ' q = σ q := fun q _ _ => c4 q (by omega) (by omega)
    have hrow := h.pa (n - 1) (by omega)
    rw [show (x + (8 - n) + (n - 1)) % 8 = (x + 7) % 8 by omega] at hrow
    obtain ⟨t2, r1, r2, r3⟩ := hrow.cg hE hB t6 c1 m1
    refine ⟨rfl, E, B, t2, L, n - 1, (x + 7) % 8, s, h.tok.cg t6, r1, r2, r3, ?_, ?_, ?_, ⟨by omega, c2, by rw [m2, upd_at]⟩, ⟨Nat.mod_lt _ (by decide), c3⟩, fun i hi => ?_, fun j hj => ?_, ?_, ?_⟩
    · rw [c4 1 (by decide) (by omega), m2, upd_ne _ _ (by decide)]; exact h.tx
    · rw [c4 2 (by decide) (by omega), m3 6 (by decide) (by decide)]; exact h.tl
    · rw [m3 6 (by decide) (by decide)]; exact h.tp
    · rw [show ((x + 7) % 8 + (8 - (n - 1)) + i) % 8 = (x + (8 - n) + i) % 8 by omega]
      exact (h.pa i (by omega)).cg hE hB t6 (CoEq_of fun q _ _ => c4 q (by omega) (by omega)) (fun k _ => by rw [m3 3 (by decide) (by decide)])
    · rw [c4 114 (by decide) (by omega), m3 5 (by decide) (by decide)]
      exact ⟨(h.ke j hj).1, fun z => ((h.ke j hj).2 z).cg hE hB t6 (CoEq_of fun q _ _ => c4 q (by omega) (by omega)) (fun k _ => by rw [m3 4 (by decide) (by decide)])⟩
    · rw [c4 120 (by decide) (by omega), m2, upd_ne _ _ (by decide)]; exact h.si
    · rw [c4 121 (by decide) (by omega), c4 122 (by decide) (by omega), m3 7 (by decide) (by decide)]; exact h.sg
theorem op_keep (h : IV σ μ E B t L n x s) {k v1 v2 : Int32} (hc : (inW k 1 = false → v1 = -2 ∧ σ' = σ) ∧ (inW k 1 = true → ∃ j : Nat, j < 2 ∧ k = nI j ∧ v1 = σ 12 0 ∧ CoEq σ' (96 + 9 * j) σ 12 ∧ σ' 114 = upd (σ 114) j 1 ∧ ∀ q, q ≠ 114 → q < 96 + 9 * j ∨ 96 + 9 * j + 9 ≤ q → σ' q = σ q))
    (hm : (inW k 1 = false → v2 = -2 ∧ μ' = μ) ∧ (inW k 1 = true → ∃ j : Nat, j < 2 ∧ k = nI j ∧ v2 = μ 1 2 ∧ (∀ i, i < 100 → μ' 4 (100 * j + i) = μ 1 i) ∧ (∀ i, i < 100 * j ∨ 100 * j + 100 ≤ i → μ' 4 i = μ 4 i) ∧ μ' 5 = upd (μ 5) j 1 ∧ ∀ q, q ≠ 4 → q ≠ 5 → μ' q = μ q)) : v1 = v2 ∧ Inv σ' μ' := by
  have hE := h.tok.e.1
  have hB := h.tok.b.1
  cases q : inW k 1 with
  | false =>
    obtain ⟨rfl, rfl⟩ := hc.1 q
    obtain ⟨rfl, rfl⟩ := hm.1 q
    exact ⟨rfl, h.inv⟩
  | true =>
    obtain ⟨j, hj, rfl, rfl, c1, c2, c3⟩ := hc.2 q
    obtain ⟨j2, hj2, ej, rfl, m1, m2, m3, m4⟩ := hm.2 q
    have e2 : j = j2 := (nI_eq (by omega) (by omega)).mp ej
    subst e2
    have t6 : ∀ q, 6 ≤ q → q ≤ 11 → σ' q = σ q := fun q _ _ => c3 q (by omega) (by omega)
    have c12 : CoEq σ' 12 σ 12 := CoEq_of fun q _ _ => c3 q (by omega) (by omega)
    have e1 := m4 1 (by decide) (by decide)
    refine ⟨h.cor.t.symm, E, B, t, L, n, x, s, h.tok.cg t6, h.tol.cg hE hB t6 (fun k _ => by rw [e1]), h.cor.cg hE hB c12 (fun k _ => by rw [e1]), h.cok.cg hE hB c12, ?_, ?_, ?_, ?_, ?_, fun i hi => ?_, fun i hi => ?_, ?_, ?_⟩
    · rw [c3 1 (by decide) (by omega), m4 0 (by decide) (by decide)]; exact h.tx
    · rw [c3 2 (by decide) (by omega), m4 6 (by decide) (by decide)]; exact h.tl
    · rw [m4 6 (by decide) (by decide)]; exact h.tp
    · rw [c3 21 (by decide) (by omega), m4 0 (by decide) (by decide)]; exact h.un
    · rw [c3 21 (by decide) (by omega)]; exact h.ne
    · exact (h.pa i hi).cg hE hB t6 (CoEq_of fun q _ _ => c3 q (by omega) (by omega)) (fun k _ => by rw [m4 3 (by decide) (by decide)])
    · rw [c2, m3]
      by_cases z : i = j
      · subst z
        rw [upd_at, upd_at]
        exact ⟨rfl, fun _ => h.row.cg hE hB t6 c1 m1⟩
      · rw [upd_ne _ _ z, upd_ne _ _ z]
        exact ⟨(h.ke i hi).1, fun y => ((h.ke i hi).2 y).cg hE hB t6 (CoEq_of fun q _ _ => c3 q (by omega) (by omega)) (fun k hk => m2 _ (by omega))⟩
    · rw [c3 120 (by decide) (by omega), m4 0 (by decide) (by decide)]; exact h.si
    · rw [c3 121 (by decide) (by omega), c3 122 (by decide) (by omega), m4 7 (by decide) (by decide)]; exact h.sg
theorem op_back (h : IV σ μ E B t L n x s) {k v1 v2 : Int32} (hc : (inW k 1 = false → v1 = -2 ∧ σ' = σ) ∧ (inW k 1 = true → ∃ j : Nat, j < 2 ∧ k = nI j ∧ (σ 114 j = 0 → v1 = -4 ∧ σ' = σ) ∧ (¬ σ 114 j = 0 → v1 = σ' 12 0 ∧ CoEq σ' 12 σ (96 + 9 * j) ∧ σ' 21 = upd (σ 21) 1 0 ∧ ∀ q, q ≠ 21 → q < 12 ∨ 21 ≤ q → σ' q = σ q)))
    (hm : (inW k 1 = false → v2 = -2 ∧ μ' = μ) ∧ (inW k 1 = true → ∃ j : Nat, j < 2 ∧ k = nI j ∧ (μ 5 j = 0 → v2 = -4 ∧ μ' = μ) ∧ (¬ μ 5 j = 0 → v2 = μ' 1 2 ∧ (∀ i, i < 100 → μ' 1 i = μ 4 (100 * j + i)) ∧ μ' 0 = upd (μ 0) 3 0 ∧ ∀ q, q ≠ 0 → q ≠ 1 → μ' q = μ q))) : v1 = v2 ∧ Inv σ' μ' := by
  have hE := h.tok.e.1
  have hB := h.tok.b.1
  cases q : inW k 1 with
  | false =>
    obtain ⟨rfl, rfl⟩ := hc.1 q
    obtain ⟨rfl, rfl⟩ := hm.1 q
    exact ⟨rfl, h.inv⟩
  | true =>
    obtain ⟨j, hj, rfl, c0, c9⟩ := hc.2 q
    obtain ⟨j2, hj2, ej, m0, m9⟩ := hm.2 q
    have e2 : j = j2 := (nI_eq (by omega) (by omega)).mp ej
    subst e2
    have hk := h.ke j hj
    by_cases z : μ 5 j = 0
    · obtain ⟨rfl, rfl⟩ := c0 (hk.1.trans z)
      obtain ⟨rfl, rfl⟩ := m0 z
      exact ⟨rfl, h.inv⟩
    · obtain ⟨rfl, c1, c2, c3⟩ := c9 (fun y => z (hk.1.symm.trans y))
      obtain ⟨rfl, m1, m2, m3⟩ := m9 z
      have t6 : ∀ q, 6 ≤ q → q ≤ 11 → σ' q = σ q := fun q _ _ => c3 q (by omega) (by omega)
      obtain ⟨t2, r1, r2, r3⟩ := (hk.2 z).cg hE hB t6 c1 m1
      refine ⟨r2.t.symm, E, B, t2, L, 0, x, s, h.tok.cg t6, r1, r2, r3, ?_, ?_, ?_, ⟨by omega, by rw [c2, upd_at]; rfl, by rw [m2, upd_at]; rfl⟩, ⟨h.ne.1, by rw [c2, upd_ne _ _ (by decide)]; exact h.ne.2⟩, fun i hi => absurd hi (by omega), fun i hi => ?_, ?_, ?_⟩
      · rw [c3 1 (by decide) (by omega), m2, upd_ne _ _ (by decide)]; exact h.tx
      · rw [c3 2 (by decide) (by omega), m3 6 (by decide) (by decide)]; exact h.tl
      · rw [m3 6 (by decide) (by decide)]; exact h.tp
      · rw [c3 114 (by decide) (by omega), m3 5 (by decide) (by decide)]
        exact ⟨(h.ke i hi).1, fun y => ((h.ke i hi).2 y).cg hE hB t6 (CoEq_of fun q _ _ => c3 q (by omega) (by omega)) (fun k _ => by rw [m3 4 (by decide) (by decide)])⟩
      · rw [c3 120 (by decide) (by omega), m2, upd_ne _ _ (by decide)]; exact h.si
      · rw [c3 121 (by decide) (by omega), c3 122 (by decide) (by omega), m3 7 (by decide) (by decide)]; exact h.sg
end PURE
