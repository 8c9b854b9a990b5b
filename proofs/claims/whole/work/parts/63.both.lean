/-- a call's contracts on both sides, and that the answers are one and the memories belong together again -/
def Both (l : Launch) (g g2 : Gx) (mc mm : Md) (as : List Value) (σ μ : Mem) : Prop := ∃ (d1 d2 : Nat) (Pc Pm : Int32 → Mem → Prop), d1 ≤ 8 ∧ d2 ≤ 8 ∧ CtI l (OC g) d1 mc (.ref (g.ad 0) :: as) σ Pc ∧ CtI l (OM g2) d2 mm (.ref (g2.ad 0) :: as) μ Pm ∧ ∀ (v : Int32) (σ' : Mem) (v2 : Int32) (μ' : Mem), Pc v σ' → Pm v2 μ' → v = v2 ∧ Inv σ' μ'
theorem ct_ci {l : Launch} {O : Om} {d : Nat} {μ : Md} {as : List Value} {σ σ' : Mem} {a : Int32} (h : Ct l O d μ as σ (some (.int a)) σ') : CtI l O d μ as σ (fun v s2 => v = a ∧ s2 = σ') := by
  have e : (fun (r2 : Option Value) (s2 : Mem) => r2 = some (Value.int a) ∧ s2 = σ') = (fun (r2 : Option Value) (s2 : Mem) => ∃ v : Int32, r2 = some (.int v) ∧ v = a ∧ s2 = σ') := by
    funext r2 s2
    exact propext ⟨fun h => ⟨a, h.1, rfl, h.2⟩, fun ⟨v, h1, h2, h3⟩ => ⟨h1.trans (by rw [h2]), h3⟩⟩
  show CtR l O d μ as σ _
  rw [← e]
  exact h
section BOTH
variable {l : Launch} {g g2 : Gx} {σ μ : Mem} {E B t L n x s : Nat}
theorem b_write (h : IV σ μ E B t L n x s) (hg : ApG 123 g.ad) (hg2 : ApG 9 g2.ad) (a : Int32) : Both l g g2 mX7_write mX8_write [.int a] σ μ := by
  refine ⟨_, _, _, _, ?_, ?_, c_X7_write hg σ h.tx.1 h.tx.2.1 a, c_X8_write hg2 μ h.tx.1 h.tx.2.2 a, ?_⟩
  · decide
  · decide
  intro v σ' v2 μ' h1 h2
  exact op_write h h1 h2
theorem b_erase (h : IV σ μ E B t L n x s) (hg : ApG 123 g.ad) (hg2 : ApG 9 g2.ad) : Both l g g2 mX7_erase mX8_erase [] σ μ := by
  refine ⟨_, _, _, _, ?_, ?_, ct_ci (c_X7_erase hg σ), ct_ci (c_X8_erase hg2 μ), ?_⟩
  · decide
  · decide
  intro v σ' v2 μ' h1 h2
  obtain ⟨rfl, rfl⟩ := h1
  obtain ⟨rfl, rfl⟩ := h2
  exact op_erase h
theorem b_fault (h : IV σ μ E B t L n x s) (hg : ApG 123 g.ad) (hg2 : ApG 9 g2.ad) : Both l g g2 mX7_fault mX8_fault [] σ μ := by
  refine ⟨_, _, _, _, ?_, ?_, c_X7_fault hg σ h.tx.1 h.tx.2.1 h.tok.e.1 h.tok.b.1 h.tok.e.2 h.tok.b.2, c_X8_fault hg2 μ h.txH h.tok.e.1 h.tok.b.1 h.tol.e h.tol.b, ?_⟩
  · decide
  · decide
  intro v σ' v2 μ' h1 h2
  exact op_fault h h1 h2
theorem b_west (h : IV σ μ E B t L n x s) (hg : ApG 123 g.ad) (hg2 : ApG 9 g2.ad) : Both l g g2 mX7_west mX8_west [] σ μ := by
  refine ⟨_, _, _, _, ?_, ?_, c_X7_west hg σ h.tx.1 h.tx.2.1 h.tok.e.1 h.tok.b.1 h.tok.e.2 h.tok.b.2, c_X8_west hg2 μ h.txH h.tok.e.1 h.tok.b.1 h.tol.e h.tol.b, ?_⟩
  · decide
  · decide
  intro v σ' v2 μ' h1 h2
  exact op_west h h1 h2
theorem b_evening (h : IV σ μ E B t L n x s) (hg : ApG 123 g.ad) (hg2 : ApG 9 g2.ad) (a b : Int32) : Both l g g2 mX7_evening mX8_evening [.int a, .int b] σ μ := by
  refine ⟨_, _, _, _, ?_, ?_, ct_ci (c_X7_evening hg σ h.tok.e.1 h.tok.e.2 a b), ct_ci (c_X8_evening hg2 μ h.tok.e.1 h.tol.e a b), ?_⟩
  · decide
  · decide
  intro v σ' v2 μ' h1 h2
  obtain ⟨rfl, rfl⟩ := h1
  obtain ⟨rfl, rfl⟩ := h2
  exact ⟨op_evening h a b, h.inv⟩
theorem b_bidder (h : IV σ μ E B t L n x s) (hg : ApG 123 g.ad) (hg2 : ApG 9 g2.ad) (a b : Int32) : Both l g g2 mX7_bidder mX8_bidder [.int a, .int b] σ μ := by
  refine ⟨_, _, _, _, ?_, ?_, ct_ci (c_X7_bidder hg σ h.tok.b.1 h.tok.b.2 a b), ct_ci (c_X8_bidder hg2 μ h.tok.b.1 h.tol.b a b), ?_⟩
  · decide
  · decide
  intro v σ' v2 μ' h1 h2
  obtain ⟨rfl, rfl⟩ := h1
  obtain ⟨rfl, rfl⟩ := h2
  exact ⟨op_bidder h a b, h.inv⟩
theorem b_as (h : IV σ μ E B t L n x s) (hg : ApG 123 g.ad) (hg2 : ApG 9 g2.ad) (a b : Int32) : Both l g g2 mX7_as mX8_as [.int a, .int b] σ μ := by
  refine ⟨_, _, _, _, ?_, ?_, ct_ci (c_X7_as hg σ h.tok.b.1 h.tok.b.2 a b), ct_ci (c_X8_as hg2 μ h.tok.b.1 h.tol.b a b), ?_⟩
  · decide
  · decide
  intro v σ' v2 μ' h1 h2
  obtain ⟨rfl, rfl⟩ := h1
  obtain ⟨rfl, rfl⟩ := h2
  exact ⟨op_as h a b, h.inv⟩
theorem b_eveningAs (h : IV σ μ E B t L n x s) (hg : ApG 123 g.ad) (hg2 : ApG 9 g2.ad) (a b : Int32) : Both l g g2 mX7_eveningAs mX8_eveningAs [.int a, .int b] σ μ := by
  refine ⟨_, _, _, _, ?_, ?_, ct_ci (c_X7_eveningAs hg σ h.tok.e.1 h.tok.e.2 a b), ct_ci (c_X8_eveningAs hg2 μ h.tok.e.1 h.tol.e a b), ?_⟩
  · decide
  · decide
  intro v σ' v2 μ' h1 h2
  obtain ⟨rfl, rfl⟩ := h1
  obtain ⟨rfl, rfl⟩ := h2
  exact ⟨op_eveningAs h a b, h.inv⟩
theorem b_bid (h : IV σ μ E B t L n x s) (hg : ApG 123 g.ad) (hg2 : ApG 9 g2.ad) (a b : Int32) : Both l g g2 mX7_bid mX8_bid [.int a, .int b] σ μ := by
  refine ⟨_, _, _, _, ?_, ?_, c_X7_bid hg σ (t := 0) h.tok.e.1 h.tok.b.1 h.tok.e.2 h.tok.b.2 h.paH a b, c_X8_bid hg2 μ h.mh h.un.1 h.un.2.2 a b, ?_⟩
  · decide
  · decide
  intro v σ' v2 μ' h1 h2
  exact op_bid h h1 h2
theorem b_sale (h : IV σ μ E B t L n x s) (hg : ApG 123 g.ad) (hg2 : ApG 9 g2.ad) (a : Int32) : Both l g g2 mX7_sale mX8_sale [.int a] σ μ := by
  refine ⟨_, _, _, _, ?_, ?_, c_X7_sale hg σ h.tok.e.1 h.tok.b.1 h.tok.e.2 h.tok.b.2 h.paH a, c_X8_sale hg2 μ h.mh h.rsH h.un.1 h.un.2.2 a, ?_⟩
  · decide
  · decide
  intro v σ' v2 μ' h1 h2
  exact op_sale h h1 h2
theorem b_price (h : IV σ μ E B t L n x s) (hg : ApG 123 g.ad) (hg2 : ApG 9 g2.ad) (a b : Int32) : Both l g g2 mX7_price mX8_price [.int a, .int b] σ μ := by
  refine ⟨_, _, _, _, ?_, ?_, c_X7_price hg σ h.tok.e.1 h.tok.e.2 h.paH a b, c_X8_price hg2 μ h.tok.e.1 h.tol.e h.un.1 h.un.2.2 a b, ?_⟩
  · decide
  · decide
  intro v σ' v2 μ' h1 h2
  exact op_price h h1 h2
theorem b_says (h : IV σ μ E B t L n x s) (hg : ApG 123 g.ad) (hg2 : ApG 9 g2.ad) (a b c : Int32) : Both l g g2 mX7_says mX8_says [.int a, .int b, .int c] σ μ := by
  refine ⟨_, _, _, _, ?_, ?_, c_X7_says hg σ h.tok.e.1 h.tok.e.2 h.paH a b c, c_X8_says hg2 μ h.tok.e.1 h.tol.e h.un.1 h.un.2.2 a b c, ?_⟩
  · decide
  · decide
  intro v σ' v2 μ' h1 h2
  exact op_says h h1 h2
theorem b_undo (h : IV σ μ E B t L n x s) (hg : ApG 123 g.ad) (hg2 : ApG 9 g2.ad) : Both l g g2 mX7_undo mX8_undo [] σ μ := by
  refine ⟨_, _, _, _, ?_, ?_, c_X7_undo hg σ h.paH, c_X8_undo hg2 μ h.un.1 h.un.2.2, ?_⟩
  · decide
  · decide
  intro v σ' v2 μ' h1 h2
  exact op_undo h h1 h2
theorem b_keep (h : IV σ μ E B t L n x s) (hg : ApG 123 g.ad) (hg2 : ApG 9 g2.ad) (a : Int32) : Both l g g2 mX7_keep mX8_keep [.int a] σ μ := by
  refine ⟨_, _, _, _, ?_, ?_, c_X7_keep hg σ a, c_X8_keep hg2 μ a, ?_⟩
  · decide
  · decide
  intro v σ' v2 μ' h1 h2
  exact op_keep h h1 h2
theorem b_back (h : IV σ μ E B t L n x s) (hg : ApG 123 g.ad) (hg2 : ApG 9 g2.ad) (a : Int32) : Both l g g2 mX7_back mX8_back [.int a] σ μ := by
  refine ⟨_, _, _, _, ?_, ?_, c_X7_back hg σ a, c_X8_back hg2 μ a, ?_⟩
  · decide
  · decide
  intro v σ' v2 μ' h1 h2
  exact op_back h h1 h2
theorem b_gain (h : IV σ μ E B t L n x s) (hg : ApG 123 g.ad) (hg2 : ApG 9 g2.ad) (a b c : Int32) : Both l g g2 mX7_gain mX8_gain [.int a, .int b, .int c] σ μ := by
  refine ⟨_, _, _, _, ?_, ?_, ct_ci (c_X7_gain hg σ h.ch a b c), ct_ci (c_X8_gain hg2 μ h.mh a b c), ?_⟩
  · decide
  · decide
  intro v σ' v2 μ' h1 h2
  obtain ⟨rfl, rfl⟩ := h1
  obtain ⟨rfl, rfl⟩ := h2
  exact ⟨op_gain h a b c, h.inv⟩
theorem b_limit (h : IV σ μ E B t L n x s) (hg : ApG 123 g.ad) (hg2 : ApG 9 g2.ad) (a : Int32) : Both l g g2 mX7_limit mX8_limit [.int a] σ μ := by
  refine ⟨_, _, _, _, ?_, ?_, ct_ci (c_X7_limit hg σ h.ch h.puC a), ct_ci (c_X8_limit hg2 μ h.mh h.puM a), ?_⟩
  · decide
  · decide
  intro v σ' v2 μ' h1 h2
  obtain ⟨rfl, rfl⟩ := h1
  obtain ⟨rfl, rfl⟩ := h2
  exact ⟨op_limit h a, h.inv⟩
theorem b_has (h : IV σ μ E B t L n x s) (hg : ApG 123 g.ad) (hg2 : ApG 9 g2.ad) (a : Int32) : Both l g g2 mX7_has mX8_has_ [.int a] σ μ := by
  refine ⟨_, _, _, _, ?_, ?_, ct_ci (c_X7_has hg σ h.ch a), c_X8_has_ hg2 μ h.mh h.rsH a, ?_⟩
  · decide
  · decide
  intro v σ' v2 μ' h1 h2
  obtain ⟨rfl, rfl⟩ := h1
  obtain ⟨rfl, q2⟩ := h2
  exact ⟨op_has h a, (h.same (SameC.rf _) (SameM.ofR q2)).inv⟩
theorem b_reply (h : IV σ μ E B t L n x s) (hg : ApG 123 g.ad) (hg2 : ApG 9 g2.ad) (a b : Int32) : Both l g g2 mX7_reply mX8_reply [.int a, .int b] σ μ := by
  refine ⟨_, _, _, _, ?_, ?_, c_X7_reply hg σ h.ch h.puC a b, c_X8_reply hg2 μ h.mh h.rsH h.puM a b, ?_⟩
  · decide
  · decide
  intro v σ' v2 μ' h1 h2
  obtain ⟨rfl, q1⟩ := h1
  obtain ⟨rfl, q2⟩ := h2
  exact ⟨op_reply h a b, (h.same (SameC.ofA q1) (SameM.ofR q2)).inv⟩
theorem b_tempted (h : IV σ μ E B t L n x s) (hg : ApG 123 g.ad) (hg2 : ApG 9 g2.ad) : Both l g g2 mX7_tempted mX8_tempted [] σ μ := by
  refine ⟨_, _, _, _, ?_, ?_, c_X7_tempted hg σ h.ch h.puC, c_X8_tempted hg2 μ h.mh h.rsH h.puM, ?_⟩
  · decide
  · decide
  intro v σ' v2 μ' h1 h2
  obtain ⟨rfl, q1⟩ := h1
  obtain ⟨rfl, q2⟩ := h2
  exact ⟨op_tempted h, (h.same (SameC.ofA q1) (SameM.ofR q2)).inv⟩
theorem b_cartel (h : IV σ μ E B t L n x s) (hg : ApG 123 g.ad) (hg2 : ApG 9 g2.ad) (a : Int32) : Both l g g2 mX7_cartel mX8_cartel [.int a] σ μ := by
  refine ⟨_, _, _, _, ?_, ?_, c_X7_cartel hg σ h.ch a, c_X8_cartel hg2 μ h.mh h.rsH a, ?_⟩
  · decide
  · decide
  intro v σ' v2 μ' h1 h2
  obtain ⟨rfl, q1⟩ := h1
  obtain ⟨rfl, q2⟩ := h2
  exact ⟨op_cartel h a, (h.same (SameC.ofA q1) (SameM.ofR q2)).inv⟩
theorem b_otherwise (h : IV σ μ E B t L n x s) (hg : ApG 123 g.ad) (hg2 : ApG 9 g2.ad) : Both l g g2 mX7_otherwise mX8_otherwise [] σ μ := by
  refine ⟨_, _, _, _, ?_, ?_, ct_ci (c_X7_otherwise hg σ h.ch), c_X8_otherwise hg2 μ h.mh h.rsH, ?_⟩
  · decide
  · decide
  intro v σ' v2 μ' h1 h2
  obtain ⟨rfl, rfl⟩ := h1
  obtain ⟨rfl, q2⟩ := h2
  exact ⟨op_otherwise h, (h.same (SameC.rf _) (SameM.ofR q2)).inv⟩
theorem b_season (h : IV σ μ E B t L n x s) (hg : ApG 123 g.ad) (hg2 : ApG 9 g2.ad) (a b : Int32) : Both l g g2 mX7_season mX8_season [.int a, .int b] σ μ := by
  refine ⟨_, _, _, _, ?_, ?_, c_X7_season hg σ h.ch a b, ct_ci (c_X8_season hg2 μ h.mh a b), ?_⟩
  · decide
  · decide
  intro v σ' v2 μ' h1 h2
  obtain ⟨rfl, q1⟩ := h1
  obtain ⟨rfl, rfl⟩ := h2
  exact ⟨op_season h a b, (h.same (SameC.ofO q1) (SameM.rf _)).inv⟩
theorem b_bright (h : IV σ μ E B t L n x s) (hg : ApG 123 g.ad) (hg2 : ApG 9 g2.ad) (a b : Int32) : Both l g g2 mX7_bright mX8_bright [.int a, .int b] σ μ := by
  refine ⟨_, _, _, _, ?_, ?_, c_X7_bright hg σ h.ch h.brC a b, ct_ci (c_X8_bright hg2 μ h.mh h.brM a b), ?_⟩
  · decide
  · decide
  intro v σ' v2 μ' h1 h2
  obtain ⟨rfl, q1⟩ := h1
  obtain ⟨rfl, rfl⟩ := h2
  exact ⟨op_bright h a b, (h.same (SameC.ofO q1) (SameM.rf _)).inv⟩
theorem b_score (h : IV σ μ E B t L n x s) (hg : ApG 123 g.ad) (hg2 : ApG 9 g2.ad) (a : Int32) : Both l g g2 mX7_score mX8_score [.int a] σ μ := by
  refine ⟨_, _, _, _, ?_, ?_, ct_ci (c_X7_score hg σ h.ch a), ct_ci (c_X8_score hg2 μ h.mh a), ?_⟩
  · decide
  · decide
  intro v σ' v2 μ' h1 h2
  obtain ⟨rfl, rfl⟩ := h1
  obtain ⟨rfl, rfl⟩ := h2
  exact ⟨op_score h a, h.inv⟩
theorem b_best (h : IV σ μ E B t L n x s) (hg : ApG 123 g.ad) (hg2 : ApG 9 g2.ad) : Both l g g2 mX7_best mX8_best [] σ μ := by
  refine ⟨_, _, _, _, ?_, ?_, ct_ci (c_X7_best hg σ h.ch), ct_ci (c_X8_best hg2 μ h.mh), ?_⟩
  · decide
  · decide
  intro v σ' v2 μ' h1 h2
  obtain ⟨rfl, rfl⟩ := h1
  obtain ⟨rfl, rfl⟩ := h2
  exact ⟨op_best h, h.inv⟩
theorem b_seen (h : IV σ μ E B t L n x s) (hg : ApG 123 g.ad) (hg2 : ApG 9 g2.ad) (a b : Int32) : Both l g g2 mX7_seen mX8_seen [.int a, .int b] σ μ := by
  refine ⟨_, _, _, _, ?_, ?_, c_X7_seen hg σ h.ch h.si.1 h.si.2.1 a b, c_X8_seen hg2 μ h.mh h.si.1 h.si.2.2 a b, ?_⟩
  · decide
  · decide
  intro v σ' v2 μ' h1 h2
  exact op_seen h h1 h2
theorem b_forget (h : IV σ μ E B t L n x s) (hg : ApG 123 g.ad) (hg2 : ApG 9 g2.ad) : Both l g g2 mX7_forget mX8_forget [] σ μ := by
  refine ⟨_, _, _, _, ?_, ?_, ct_ci (c_X7_forget hg σ), ct_ci (c_X8_forget hg2 μ), ?_⟩
  · decide
  · decide
  intro v σ' v2 μ' h1 h2
  obtain ⟨rfl, rfl⟩ := h1
  obtain ⟨rfl, rfl⟩ := h2
  exact op_forget h
theorem b_buyers (h : IV σ μ E B t L n x s) (hg : ApG 123 g.ad) (hg2 : ApG 9 g2.ad) : Both l g g2 mX7_buyers mX8_buyers [] σ μ := by
  refine ⟨_, _, _, _, ?_, ?_, ct_ci (c_X7_buyers hg σ h.ch h.siH), ct_ci (c_X8_buyers hg2 μ h.mh h.smH), ?_⟩
  · decide
  · decide
  intro v σ' v2 μ' h1 h2
  obtain ⟨rfl, rfl⟩ := h1
  obtain ⟨rfl, rfl⟩ := h2
  exact ⟨op_buyers h, h.inv⟩
theorem b_count (h : IV σ μ E B t L n x s) (hg : ApG 123 g.ad) (hg2 : ApG 9 g2.ad) (a : Int32) : Both l g g2 mX7_count mX8_count [.int a] σ μ := by
  refine ⟨_, _, _, _, ?_, ?_, ct_ci (c_X7_count hg σ a), ct_ci (c_X8_count hg2 μ h.mh a), ?_⟩
  · decide
  · decide
  intro v σ' v2 μ' h1 h2
  obtain ⟨rfl, rfl⟩ := h1
  obtain ⟨rfl, rfl⟩ := h2
  exact ⟨op_count h a, h.inv⟩
end BOTH
/-- at the start the memories belong together -/
theorem inv_0 {σ : Mem} (h : Anew σ (fun _ => z0)) : Inv σ (fun _ => z0) := by
  obtain ⟨h1, h2, h3, h4, h5⟩ := h
  have q : ∀ q, q < 12 ∨ 21 ≤ q → ∀ k, σ q k = 0 := fun q hq k => by rw [h5 q hq]; rfl
  refine ⟨0, 0, 0, 0, 0, 0, 0, ⟨⟨by decide, q 6 (by decide) 3⟩, ⟨by decide, q 6 (by decide) 4⟩, Or.inl (q 6 (by decide) 0), ⟨0, by decide, q 6 (by decide) 1⟩, ⟨0, by decide, q 6 (by decide) 2⟩, fun i hi => absurd hi (Nat.not_lt_zero i), fun j hj => absurd hj (Nat.not_lt_zero j)⟩, ⟨rfl, rfl, (q 6 (by decide) 0).symm, (q 6 (by decide) 1).symm, (q 6 (by decide) 2).symm, fun i hi => absurd hi (Nat.not_lt_zero i), fun j hj => absurd hj (Nat.not_lt_zero j)⟩, ⟨h1.1.symm, h1.2.symm, fun j hj => absurd hj (Nat.not_lt_zero j), fun i hi => absurd hi (Nat.not_lt_zero i)⟩, ⟨⟨by decide, h1.1⟩, fun j hj => absurd hj (Nat.not_lt_zero j), fun j _ hj => ⟨(h2 j hj).2.1, (h2 j hj).2.2⟩, fun i hi => absurd hi (Nat.not_lt_zero i), fun i _ hi => (h3 i hi).2.1⟩, ⟨by decide, q 1 (by decide) 1, rfl⟩, ?_, fun i hi => absurd hi (Nat.not_lt_zero i), ⟨by decide, q 21 (by decide) 1, rfl⟩, ⟨by decide, q 21 (by decide) 2⟩, fun i hi => absurd hi (Nat.not_lt_zero i), fun j _ => ⟨q 114 (by decide) j, fun z => absurd rfl z⟩, ⟨by decide, q 120 (by decide) 3, rfl⟩, fun i hi => absurd hi (Nat.not_lt_zero i)⟩
  exact h5 2 (by decide)
