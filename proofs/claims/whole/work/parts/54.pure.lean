section PURE
variable {σ μ σ' μ' : Mem} {E B t L n x s : Nat}
theorem lft_nat (br : Bool) (ek : Int32) {r a : Nat} (hr : r ≤ 10) (ha : a ≤ 99) : ∃ l, l ≤ a ∧ lft br ek (nI r) (nI a) = nI l := by
  unfold lft
  by_cases q : br = true
  · rw [if_pos q]; exact ⟨a, Nat.le_refl _, rfl⟩
  · rw [if_neg q]
    unfold rfO
    by_cases q2 : ek = 2
    · rw [if_pos q2, Int32.sub_zero]; exact ⟨a, Nat.le_refl _, rfl⟩
    · rw [if_neg q2, pk_mul]
      have h1 : r * a ≤ 10 * a := Nat.mul_le_mul_right _ hr
      rw [show nI (r * a) / 10 = nI (r * a / 10) from pk_div (d := 10) (by omega) (by decide) (by decide), nI_sub9 (by omega)]
      exact ⟨a - r * a / 10, by omega, rfl⟩
theorem IV.eSP (g : IV σ μ E B t L n x s) : saP μ B = slP σ B := by
  have hB := g.tok.b.1
  unfold saP slP
  rw [g.eW]
  by_cases q : slW σ B = -1
  · rw [if_pos q, if_pos q]
  · rw [if_neg q, if_neg q]
    obtain ⟨j, hj, ej⟩ := ow_lt (show ¬ ow (σ 6 1) (σ 15) B = -1 from q)
    rw [show slW σ B = nI j from ej, nI_clamp (by omega), g.eP _ (by omega), g.tol.ru]
theorem sale_iv (g : IV σ μ E B t L n x s) (ht : t < E) (z : Int32) (h1 : μ' 1 = saR μ B t z) (h2 : ∀ q, q ≠ 1 → q ≠ 8 → μ' q = μ q) : IV (slM σ B t z) μ' E B (t + 1) L n x s := by
  have hE := g.tok.e.1
  have hB := g.tok.b.1
  have eb : saB μ t z = slB σ t z := by unfold saB slB; rw [(g.tol.ev t ht).2]
  have fl : ∀ b, b < 5 → flF 5 (-1) (σ 15) b = -1 := fun b hb => flF_in _ _ hb
  generalize hbr : slB σ t z = br at eb
  by_cases q : slW σ B = -1
  · have hf : μ' 1 = upd (bdR 5 (sR0 (μ 1) t br (-1))) 2 (nI (t + 1)) := by rw [h1, saR, g.eW, if_pos q, eb]
    have hs : slM σ B t z = sEnd σ t br := by rw [slM, if_pos q, hbr]
    rw [hs]
    generalize hμ1 : μ 1 = f at hf
    have gt := g.tol
    have gc := g.cor
    rw [hμ1] at gt gc
    refine g.now (fun q hq => ?_) h2 ?_ ?_ ?_
    · rw [sEnd, up2_ne _ _ _ (by omega), upA_ne _ _ (by omega), up2_ne _ _ _ (by omega)]
    · rw [hf]
      refine gt.keep hE hB (fun k hk => ?_)
      rw [upd_ne _ _ (by omega), bdR_out _ (by omega), sR0, upd_ne _ _ (by omega), upd_ne _ _ (by omega)]
    · rw [hf]
      refine ⟨?_, ?_, fun b hb => ?_, fun i hi => ?_⟩
      · rw [upd_at]; rfl
      · rw [upd_ne _ _ (by omega), bdR_out _ (by omega), sR0, upd_ne _ _ (by omega), upd_ne _ _ (by omega)]; exact gc.p
      · rw [upd_ne _ _ (by omega), upd_ne _ _ (by omega), upd_ne _ _ (by omega), bdR_in _ (by omega), bdR_out _ (by omega), bdR_out _ (by omega), sR0, upd_ne _ _ (by omega), upd_ne _ _ (by omega), upd_ne _ _ (by omega), upd_ne _ _ (by omega)]
        exact ⟨(gc.bi b hb).1, (gc.bi b hb).2.1, (fl b (by omega)).symm⟩
      · obtain ⟨g1, g2, g3, g4, g5⟩ := gc.ev i hi
        refine ⟨?_, ?_, ?_, ?_, fun k hk => ?_⟩
        · rw [upd_ne _ _ (by omega), bdR_out _ (by omega), sR0, upd_ne _ _ (by omega), upd_ne _ _ (by omega)]; exact g1
        · rw [upd_ne _ _ (by omega), bdR_out _ (by omega), sR0]
          show _ = σ 17 i
          by_cases y : i = t
          · subst y; rw [upd_at]; exact (g.cok.fu i (Nat.le_refl _) (by omega)).symm
          · rw [upd_ne _ _ (by omega), upd_ne _ _ (by omega)]; exact g2
        · rw [upd_ne _ _ (by omega), bdR_out _ (by omega), sR0, upd_ne _ _ (by omega), upd_ne _ _ (by omega)]; exact g3
        · rw [upd_ne _ _ (by omega), bdR_out _ (by omega), sR0, upd_ne _ _ (by omega)]
          show _ = upd (σ 19) t (bI br) i
          by_cases y : i = t
          · subst y; rw [upd_at, upd_at]
          · rw [upd_ne _ _ (by omega), upd_ne _ _ y]; exact g4
        · rw [upd_ne _ _ (by omega), bdR_out _ (by omega), sR0, upd_ne _ _ (by omega), upd_ne _ _ (by omega)]; exact g5 k hk
    · refine ⟨⟨ht, rfl⟩, fun b hb => ?_, fun b b1 b2 => ⟨(g.cok.no b b1 b2).1, fl b b2⟩, fun i hi => ?_, fun i i1 i2 => g.cok.fu i (by omega) i2⟩
      · obtain ⟨pu, p1, p2, _⟩ := g.cok.bi b hb
        exact ⟨pu, p1, p2, Or.inl (fl b (by omega))⟩
      · show upd (σ 19) t (bI br) i = 0 ∨ upd (σ 19) t (bI br) i = 1
        by_cases y : i = t
        · subst y; rw [upd_at]; cases br; exact Or.inl rfl; exact Or.inr rfl
        · rw [upd_ne _ _ y]; exact g.cok.ou i (by omega)
  · obtain ⟨j, hj, ej⟩ := ow_lt (show ¬ ow (σ 6 1) (σ 15) B = -1 from q)
    obtain ⟨r, hr, er⟩ := g.tok.rs
    obtain ⟨rf, hrf, erf⟩ := g.tok.rf
    obtain ⟨bv, hbv, ebv, a, hav, ea⟩ := pay_nat (ru := σ 6 0) hr hB g.nuB hj (by rw [← er]; exact ej)
    have eP : slP σ B = nI a := by rw [slP, if_neg q, show slW σ B = nI j from ej, nI_clamp (by omega), er]; exact ea
    have hf : μ' 1 = upd (bdR 5 (sR1 (μ 1) t br j (nI a))) 2 (nI (t + 1)) := by rw [h1, saR, g.eW, if_neg q, eb, g.eSP, eP, show slW σ B = nI j from ej, nI_clamp (by omega)]
    have hs : slM σ B t z = sEnd (hOv σ t j (nI a) br) t br := by rw [slM, if_neg q, hbr, eP, show slW σ B = nI j from ej, nI_clamp (by omega)]
    rw [hs]
    obtain ⟨l, hl, el⟩ := lft_nat br (σ 7 t) hrf (show a ≤ 99 by omega)
    rw [← erf] at el
    generalize hμ1 : μ 1 = f at hf
    have gt := g.tol
    have gc := g.cor
    rw [hμ1] at gt gc
    have el2 : lft br (f (7 + 9 * t)) (f 5) (nI a) = nI l := by rw [(gt.ev t ht).1, gt.rf]; exact el
    have R6 : ∀ k, k ≠ 6 → k ≠ 70 + 6 * j + 4 → k ≠ 70 + 6 * j + 3 → k ≠ 7 + 9 * t + 4 → k ≠ 7 + 9 * t + 3 → k ≠ 7 + 9 * t + 5 → sR1 f t br j (nI a) k = f k := fun k k1 k2 k3 k4 k5 k6 => by
      rw [sR1, sR0, upd_ne _ _ k1, upd_ne _ _ k2, upd_ne _ _ k3, upd_ne _ _ k4, upd_ne _ _ k5, upd_ne _ _ k6]
    refine g.now (fun q hq => ?_) h2 ?_ ?_ ?_
    · rw [sEnd, up2_ne _ _ _ (by omega), upA_ne _ _ (by omega), up2_ne _ _ _ (by omega), hOv, up2_ne _ _ _ (by omega), up2_ne _ _ _ (by omega), up2_ne _ _ _ (by omega), up2_ne _ _ _ (by omega), up2_ne _ _ _ (by omega)]
    · rw [hf]
      refine gt.keep hE hB (fun k hk => ?_)
      rw [upd_ne _ _ (by omega), bdR_out _ (by omega), R6 _ (by omega) (by omega) (by omega) (by omega) (by omega) (by omega)]
    · rw [hf]
      refine ⟨?_, ?_, fun b hb => ?_, fun i hi => ?_⟩
      · rw [upd_at]; rfl
      · rw [upd_ne _ _ (by omega), bdR_out _ (by omega), sR1, upd_at, el2]
        show _ = σ 12 1 + lft br (σ 7 t) (σ 6 2) (nI a)
        rw [el, gc.p]
      · rw [upd_ne _ _ (by omega), upd_ne _ _ (by omega), upd_ne _ _ (by omega), bdR_in _ (by omega), bdR_out _ (by omega), bdR_out _ (by omega)]
        refine ⟨?_, ?_, (fl b (by omega)).symm⟩
        · show _ = upd (σ 13) j (σ 13 j - lft br (σ 7 t) (σ 6 2) (nI a)) b
          rw [el]
          by_cases y : b = j
          · subst y
            rw [sR1, upd_ne _ _ (by omega), upd_ne _ _ (by omega), upd_at, upd_at, el2, (gc.bi b hb).1]
          · rw [upd_ne _ _ y, R6 _ (by omega) (by omega) (by omega) (by omega) (by omega) (by omega)]; exact (gc.bi b hb).1
        · show _ = upd (σ 14) j (σ 14 j + (if br = true then wB (σ 9 j) (σ 10 j) else wD (σ 9 j) (σ 10 j))) b
          by_cases y : b = j
          · subst y
            rw [sR1, upd_ne _ _ (by omega), upd_at, upd_at, (gc.bi b hb).2.1, (gt.bi b hb).1, (gt.bi b hb).2.1]
          · rw [upd_ne _ _ y, R6 _ (by omega) (by omega) (by omega) (by omega) (by omega) (by omega)]; exact (gc.bi b hb).2.1
      · obtain ⟨g1, g2, g3, g4, g5⟩ := gc.ev i hi
        refine ⟨?_, ?_, ?_, ?_, fun k hk => ?_⟩
        · rw [upd_ne _ _ (by omega), bdR_out _ (by omega), R6 _ (by omega) (by omega) (by omega) (by omega) (by omega) (by omega)]; exact g1
        · rw [upd_ne _ _ (by omega), bdR_out _ (by omega)]
          show _ = upd (σ 17) t (nI j) i
          by_cases y : i = t
          · subst y; rw [sR1, sR0, upd_ne _ _ (by omega), upd_ne _ _ (by omega), upd_ne _ _ (by omega), upd_ne _ _ (by omega), upd_at, upd_at]
          · rw [upd_ne _ _ y, R6 _ (by omega) (by omega) (by omega) (by omega) (by omega) (by omega)]; exact g2
        · rw [upd_ne _ _ (by omega), bdR_out _ (by omega)]
          show _ = upd (σ 18) t (nI a) i
          by_cases y : i = t
          · subst y; rw [sR1, upd_ne _ _ (by omega), upd_ne _ _ (by omega), upd_ne _ _ (by omega), upd_at, upd_at]
          · rw [upd_ne _ _ y, R6 _ (by omega) (by omega) (by omega) (by omega) (by omega) (by omega)]; exact g3
        · rw [upd_ne _ _ (by omega), bdR_out _ (by omega)]
          show _ = upd (σ 19) t (bI br) i
          by_cases y : i = t
          · subst y; rw [sR1, sR0, upd_ne _ _ (by omega), upd_ne _ _ (by omega), upd_ne _ _ (by omega), upd_ne _ _ (by omega), upd_ne _ _ (by omega), upd_at, upd_at]
          · rw [upd_ne _ _ y, R6 _ (by omega) (by omega) (by omega) (by omega) (by omega) (by omega)]; exact g4
        · rw [upd_ne _ _ (by omega), bdR_out _ (by omega), R6 _ (by omega) (by omega) (by omega) (by omega) (by omega) (by omega)]; exact g5 k hk
    · refine ⟨⟨ht, rfl⟩, fun b hb => ?_, fun b b1 b2 => ⟨?_, fl b b2⟩, fun i hi => ?_, fun i i1 i2 => ?_⟩
      · obtain ⟨pu, p1, p2, p3⟩ := g.cok.bi b hb
        by_cases y : b = j
        · subst y
          refine ⟨pu - l, by omega, ?_, Or.inl (fl b (by omega))⟩
          show upd (σ 13) b (σ 13 b - lft br (σ 7 t) (σ 6 2) (nI a)) b = nI (pu - l)
          have h5 : bv ≤ pu := by
            rcases p3 with p4 | ⟨y, y1, y2, y3⟩
            · exact absurd (ebv.symm.trans p4) (nI_nm1_big (by omega))
            · have := (nI_eq (by omega) (by omega)).mp (ebv.symm.trans y3)
              omega
          rw [upd_at, el, show σ 13 b = nI pu from p2, nI_sub9 (by omega)]
        · refine ⟨pu, p1, ?_, Or.inl (fl b (by omega))⟩
          show upd (σ 13) j (σ 13 j - lft br (σ 7 t) (σ 6 2) (nI a)) b = nI pu
          rw [upd_ne _ _ y]; exact p2
      · show upd (σ 14) j (σ 14 j + (if br = true then wB (σ 9 j) (σ 10 j) else wD (σ 9 j) (σ 10 j))) b = 0
        rw [upd_ne _ _ (by omega)]; exact (g.cok.no b b1 b2).1
      · show upd (σ 19) t (bI br) i = 0 ∨ upd (σ 19) t (bI br) i = 1
        by_cases y : i = t
        · subst y; rw [upd_at]; cases br; exact Or.inl rfl; exact Or.inr rfl
        · rw [upd_ne _ _ y]; exact g.cok.ou i (by omega)
      · show upd (σ 17) t (nI j) i = -1
        rw [upd_ne _ _ (by omega)]; exact g.cok.fu i (by omega) i2
theorem op_sale (h : IV σ μ E B t L n x s) {z v1 v2 : Int32} (hc : (slC σ z = 0 → ∃ (σ1 : Mem) (t2 : Nat), t2 < E ∧ σ 12 0 = nI t2 ∧ RemQ σ1 σ x n ∧ σ' = slM σ1 B t2 z ∧ v1 = slP σ1 B) ∧ (¬ slC σ z = 0 → v1 = slC σ z ∧ σ' = σ))
    (hm : (slN μ z = 0 → t < E ∧ ∃ μ1 : Mem, NoQ μ1 μ n ∧ μ' 1 = saR μ1 B t z ∧ v2 = saP μ1 B ∧ ∀ q, q ≠ 1 → q ≠ 8 → μ' q = μ1 q) ∧ (¬ slN μ z = 0 → v2 = slN μ z ∧ μ' = μ)) : v1 = v2 ∧ Inv σ' μ' := by
  have hE := h.tok.e.1
  have e1 : slC σ z = slN μ z := by unfold slC slN; rw [h.nit.1, h.nit.2]
  by_cases q : slN μ z = 0
  · obtain ⟨σ1, t2, ht2, et2, hr, rfl, rfl⟩ := hc.1 (e1.trans q)
    obtain ⟨ht, μ1, hno, m1, rfl, m2⟩ := hm.1 q
    have e2 : t2 = t := (nI_eq (by omega) (by omega)).mp (et2.symm.trans h.cok.t.2)
    subst e2
    have g := h.note hr hno
    exact ⟨g.eSP.symm, (sale_iv g ht z m1 m2).inv⟩
  · obtain ⟨rfl, rfl⟩ := hc.2 (fun y => q (e1.symm.trans y))
    obtain ⟨rfl, rfl⟩ := hm.2 q
    exact ⟨e1, h.inv⟩
-- west
def NuX (y : Nat × Int32 × Int32) : Prop := ((1 ≤ y.1 ∧ y.1 ≤ 3) ∨ y.1 = 11 → ∃ v, v ≤ 10 ∧ y.2.1 = nI v) ∧ ((4 ≤ y.1 ∧ y.1 ≤ 7) ∨ y.1 = 10 → ∃ v, v ≤ 99 ∧ y.2.1 = nI v) ∧ (4 ≤ y.1 ∧ y.1 ≤ 7 → ∃ v, v ≤ 99 ∧ y.2.2 = nI v)
theorem clC_nat : ∀ k, k ≤ 2 → ∀ v, v ≤ 10 → toN (clC (nI k) (nI v)) ≤ 10 ∧ clC (nI k) (nI v) = nI (toN (clC (nI k) (nI v))) := by decide +kernel
theorem nbh_0 : ∀ w, w < 13 → nbh w = 0 → ¬ ((1 ≤ w ∧ w ≤ 3) ∨ w = 11) ∧ ¬ ((4 ≤ w ∧ w ≤ 7) ∨ w = 10) := by decide
theorem nbh_1 : ∀ w, w < 13 → nbh w = 1 → ¬ (4 ≤ w ∧ w ≤ 7) := by decide
theorem tpb_e : ∀ w, w < 13 → ((1 ≤ w ∧ w ≤ 3) ∨ w = 11) → tpb w = 10 := by decide
theorem clP_nu {tx : Nat → Int32} {L p E B p2 w : Nat} {a b : Int32} (hp : p ≤ L) (h : clP tx L p E B = .inr (p2, w, a, b)) : p2 ≤ L ∧ NuX (w, a, b) := by
  have hw := (clP_ok h).1
  have hb0 := tkB_in (tx := tx) hp
  have he0 := tkE_in (tx := tx) hb0.2
  have hb1 := tkB_in (tx := tx) he0.2.1
  have he1 := tkE_in (tx := tx) hb1.2
  have hb2 := tkB_in (tx := tx) he1.2.1
  have he2 := tkE_in (tx := tx) hb2.2
  have v1 := nmT_val (tx := tx) hb1.2 (nI (tpb w))
  have v2 := nmT_val (tx := tx) hb2.2 99
  rw [clP_at rfl rfl rfl rfl rfl rfl rfl] at h
  split at h
  · cases h
  · split at h
    · cases h
    · split at h
      · rename_i hn
        have e := Sum.inr.inj h
        have ew : wdN tx (tkB tx L p) (tkE tx L (tkB tx L p)) = w := congrArg (fun y => y.2.1) e
        rw [ew] at hn
        have hz := nbh_0 w hw hn
        exact ⟨by rw [← show tkE tx L (tkB tx L p) = p2 from congrArg Prod.fst e]; exact he0.2.1, fun z => absurd z hz.1, fun z => absurd z hz.2, fun z => absurd (Or.inl z) hz.2⟩
      · split at h
        · cases h
        · rename_i _ h1
          split at h
          · rename_i hn
            have e := Sum.inr.inj h
            have ew : wdN tx (tkB tx L p) (tkE tx L (tkB tx L p)) = w := congrArg (fun y => y.2.1) e
            have ea := congrArg (fun y => y.2.2.1) e
            rw [ew] at hn h1 ea
            have hz := nbh_1 w hw hn
            rcases v1 with y | ⟨v, g1, g2, g3⟩
            · exact absurd y h1
            · refine ⟨by rw [← show tkE tx L (tkB tx L (tkE tx L (tkB tx L p))) = p2 from congrArg Prod.fst e]; exact he1.2.1, fun z => ?_, fun z => ⟨v, g1, ea.symm.trans g2⟩, fun z => absurd z hz⟩
              rw [tpb_e w hw z] at g3
              exact ⟨v, (nI_leI (by omega) (by decide)).mp (Int32.not_lt.mp g3), by rw [← tpb_e w hw z] at *; exact ea.symm.trans g2⟩
          · split at h
            · cases h
            · rename_i h2
              have e := Sum.inr.inj h
              have ew : wdN tx (tkB tx L p) (tkE tx L (tkB tx L p)) = w := congrArg (fun y => y.2.1) e
              have ea := congrArg (fun y => y.2.2.1) e
              have eb := congrArg (fun y => y.2.2.2) e
              rw [ew] at h1 ea
              rcases v1 with y | ⟨v, g1, g2, g3⟩
              · exact absurd y h1
              · rcases v2 with y | ⟨u, k1, k2, _⟩
                · exact absurd y h2
                · refine ⟨by rw [← show tkE tx L (tkB tx L (tkE tx L (tkB tx L (tkE tx L (tkB tx L p))))) = p2 from congrArg Prod.fst e]; exact he2.2.1, fun z => ?_, fun z => ⟨v, g1, ea.symm.trans g2⟩, fun z => ⟨u, k1, eb.symm.trans k2⟩⟩
                  rw [tpb_e w hw z] at g3
                  exact ⟨v, (nI_leI (by omega) (by decide)).mp (Int32.not_lt.mp g3), ea.symm.trans g2⟩
theorem ffT_nu (tx : Nat → Int32) (L : Nat) : ∀ (c p E B : Nat), p ≤ L → ∀ y, y ∈ (ffT tx L c p E B).2 → NuX y
  | 0, _, _, _, _, y, h => by simp [ffT] at h
  | c + 1, p, E, B, hp, y, h => by
    rw [ffT] at h
    split at h
    · simp at h
    · rename_i p2 w a b hC
      obtain ⟨h2, hn⟩ := clP_nu hp hC
      have hb := tkB_in (tx := tx) h2
      have he := tkE_in (tx := tx) hb.2
      split at h
      · simp at h; rw [h]; exact hn
      · split at h
        · simp at h; rw [h]; exact hn
        · split at h
          · simp at h; rw [h]; exact hn
          · rcases List.mem_cons.mp h with h | h
            · rw [h]; exact hn
            · exact ffT_nu tx L c _ _ _ he.2.1 y h
theorem tt_step {f : Nat → Int32} {w : Nat} {a b : Int32} (h1 : TolOk σ E B) (h2 : TolR σ f E B) (hw : w < 13) (hr : rmF w E B = true) (hn : NuX (w, a, b)) : TolOk (cOut σ w E B a b) (alE w E) (alB w B) ∧ TolR (cOut σ w E B a b) (dOut f w E B a b) (alE w E) (alB w B) := by
  have hE := h1.e.1
  have hB := h1.b.1
  rcases (show w = 0 ∨ (1 ≤ w ∧ w ≤ 3) ∨ (4 ≤ w ∧ w ≤ 7) ∨ w = 8 ∨ w = 9 ∨ w = 10 ∨ w = 11 ∨ w = 12 by omega) with rfl | q | q | rfl | rfl | rfl | rfl | rfl
  · exact ⟨⟨⟨Nat.zero_le 7, rfl⟩, ⟨Nat.zero_le 5, rfl⟩, Or.inl rfl, ⟨0, by decide, rfl⟩, ⟨0, by decide, rfl⟩, fun i hi => absurd hi (Nat.not_lt_zero i), fun j hj => absurd hj (Nat.not_lt_zero j)⟩, rfl, rfl, rfl, rfl, rfl, fun i hi => absurd hi (Nat.not_lt_zero i), fun j hj => absurd hj (Nat.not_lt_zero j)⟩
  · have hlt : E < 7 := by rw [rmF, if_pos q] at hr; exact of_decide_eq_true hr
    obtain ⟨v, hv, ev⟩ := hn.1 (Or.inl q)
    have hcc := clC_nat (w - 1) (by omega) v hv
    have ev : a = nI v := ev
    have e1 : cOut σ w E B a b = adE σ E (nI (w - 1)) a := by rw [cOut, if_neg (by omega), if_pos q.2]
    have e2 : dOut f w E B a b = upd (upd (upd f (7 + 9 * E) (nI (w - 1))) (7 + 9 * E + 1) (clC (nI (w - 1)) a)) 0 (nI (E + 1)) := by rw [dOut, if_neg (by omega), if_pos q.2]
    rw [e1, e2, show alE w E = E + 1 by rw [alE, if_pos q], show alB w B = B by rw [alB, if_neg (by omega), if_neg (by omega)]]
    have c7 : adE σ E (nI (w - 1)) a 7 = upd (σ 7) E (nI (w - 1)) := rfl
    have c8 : adE σ E (nI (w - 1)) a 8 = upd (σ 8) E (clC (nI (w - 1)) a) := rfl
    refine ⟨⟨⟨hlt, rfl⟩, h1.b, h1.ru, h1.rs, h1.rf, fun i hi => ?_, h1.bi⟩, ?_, ?_, ?_, ?_, ?_, fun i hi => ?_, fun j hj => ?_⟩
    · rw [c7, c8]
      by_cases z : i = E
      · subst z; rw [upd_at, upd_at]
        exact ⟨⟨w - 1, by omega, rfl⟩, toN (clC (nI (w - 1)) (nI v)), hcc.1, by rw [ev]; exact hcc.2⟩
      · rw [upd_ne _ _ z, upd_ne _ _ z]; exact h1.ev i (by omega)
    · rw [upd_at]
    · rw [upd_ne _ _ (by omega), upd_ne _ _ (by omega), upd_ne _ _ (by omega)]; exact h2.b
    · rw [upd_ne _ _ (by omega), upd_ne _ _ (by omega), upd_ne _ _ (by omega)]; exact h2.ru
    · rw [upd_ne _ _ (by omega), upd_ne _ _ (by omega), upd_ne _ _ (by omega)]; exact h2.rs
    · rw [upd_ne _ _ (by omega), upd_ne _ _ (by omega), upd_ne _ _ (by omega)]; exact h2.rf
    · rw [c7, c8]
      by_cases z : i = E
      · subst z
        refine ⟨?_, ?_⟩
        · rw [upd_ne _ _ (by omega), upd_ne _ _ (by omega), upd_at, upd_at]
        · rw [upd_ne _ _ (by omega), upd_at, upd_at]
      · rw [upd_ne (σ 7) _ z, upd_ne (σ 8) _ z]
        refine ⟨?_, ?_⟩
        · rw [upd_ne _ _ (by omega), upd_ne _ _ (by omega), upd_ne _ _ (by omega)]; exact (h2.ev i (by omega)).1
        · rw [upd_ne _ _ (by omega), upd_ne _ _ (by omega), upd_ne _ _ (by omega)]; exact (h2.ev i (by omega)).2
    · rw [upd_ne _ _ (by omega), upd_ne _ _ (by omega), upd_ne _ _ (by omega), upd_ne _ _ (by omega), upd_ne _ _ (by omega), upd_ne _ _ (by omega), upd_ne _ _ (by omega), upd_ne _ _ (by omega), upd_ne _ _ (by omega)]; exact h2.bi j hj
  · have hlt : B < 5 := by rw [rmF, if_neg (by omega), if_pos q] at hr; exact of_decide_eq_true hr
    obtain ⟨v, hv, ev⟩ := hn.2.1 (Or.inl q)
    obtain ⟨u, hu, eu⟩ := hn.2.2 q
    have e1 : cOut σ w E B a b = adB σ B (nI (w - 4)) a b := by rw [cOut, if_neg (by omega), if_neg (by omega)]
    have e2 : dOut f w E B a b = upd (upd (upd (upd f (70 + 6 * B) (nI (w - 4))) (70 + 6 * B + 1) a) (70 + 6 * B + 2) b) 1 (nI (B + 1)) := by rw [dOut, if_neg (by omega), if_neg (by omega), if_pos q.2]
    rw [e1, e2, show alE w E = E by rw [alE, if_neg (by omega), if_neg (by omega)], show alB w B = B + 1 by rw [alB, if_pos q]]
    have c9 : adB σ B (nI (w - 4)) a b 9 = upd (σ 9) B (nI (w - 4)) := rfl
    have c10 : adB σ B (nI (w - 4)) a b 10 = upd (σ 10) B a := rfl
    have c11 : adB σ B (nI (w - 4)) a b 11 = upd (σ 11) B b := rfl
    refine ⟨⟨h1.e, ⟨hlt, rfl⟩, h1.ru, h1.rs, h1.rf, h1.ev, fun i hi => ?_⟩, ?_, ?_, ?_, ?_, ?_, fun i hi => ?_, fun j hj => ?_⟩
    · rw [c9, c10, c11]
      by_cases z : i = B
      · subst z; rw [upd_at, upd_at, upd_at]
        exact ⟨⟨w - 4, by omega, rfl⟩, ⟨v, hv, ev⟩, u, hu, eu⟩
      · rw [upd_ne _ _ z, upd_ne _ _ z, upd_ne _ _ z]; exact h1.bi i (by omega)
    · rw [upd_ne _ _ (by omega), upd_ne _ _ (by omega), upd_ne _ _ (by omega), upd_ne _ _ (by omega)]; exact h2.e
    · rw [upd_at]
    · rw [upd_ne _ _ (by omega), upd_ne _ _ (by omega), upd_ne _ _ (by omega), upd_ne _ _ (by omega)]; exact h2.ru
    · rw [upd_ne _ _ (by omega), upd_ne _ _ (by omega), upd_ne _ _ (by omega), upd_ne _ _ (by omega)]; exact h2.rs
    · rw [upd_ne _ _ (by omega), upd_ne _ _ (by omega), upd_ne _ _ (by omega), upd_ne _ _ (by omega)]; exact h2.rf
    · have key : ∀ k, k < 70 → k ≠ 1 → upd (upd (upd (upd f (70 + 6 * B) (nI (w - 4))) (70 + 6 * B + 1) a) (70 + 6 * B + 2) b) 1 (nI (B + 1)) k = f k := fun k k1 k2 => by
        rw [upd_ne _ _ k2, upd_ne _ _ (by omega), upd_ne _ _ (by omega), upd_ne _ _ (by omega)]
      rw [key _ (by omega) (by omega), key _ (by omega) (by omega)]; exact h2.ev i hi
    · rw [c9, c10, c11]
      by_cases z : j = B
      · subst z
        refine ⟨?_, ?_, ?_⟩
        · rw [upd_ne _ _ (by omega), upd_ne _ _ (by omega), upd_ne _ _ (by omega), upd_at, upd_at]
        · rw [upd_ne _ _ (by omega), upd_ne _ _ (by omega), upd_at, upd_at]
        · rw [upd_ne _ _ (by omega), upd_at, upd_at]
      · have key : ∀ k, 70 ≤ k → k < 70 + 6 * B ∨ 70 + 6 * B + 3 ≤ k → upd (upd (upd (upd f (70 + 6 * B) (nI (w - 4))) (70 + 6 * B + 1) a) (70 + 6 * B + 2) b) 1 (nI (B + 1)) k = f k := fun k k1 k2 => by
          rw [upd_ne _ _ (by omega), upd_ne _ _ (by omega), upd_ne _ _ (by omega), upd_ne _ _ (by omega)]
        rw [key _ (by omega) (by omega), key _ (by omega) (by omega), key _ (by omega) (by omega), upd_ne _ _ z, upd_ne _ _ z, upd_ne _ _ z]; exact h2.bi j (by omega)
  · have e2 : dOut f 8 E B a b = upd f 3 0 := rfl
    rw [e2]
    refine ⟨⟨h1.e, h1.b, Or.inl rfl, h1.rs, h1.rf, h1.ev, h1.bi⟩, ?_⟩
    have key : ∀ k, k ≠ 3 → upd f 3 0 k = f k := fun k hk => upd_ne _ _ hk
    exact ⟨(key 0 (by decide)).trans h2.e, (key 1 (by decide)).trans h2.b, rfl, (key 4 (by decide)).trans h2.rs, (key 5 (by decide)).trans h2.rf, fun i hi => by rw [key _ (by omega), key _ (by omega)]; exact h2.ev i hi, fun j hj => by rw [key _ (by omega), key _ (by omega), key _ (by omega)]; exact h2.bi j hj⟩
  · have e2 : dOut f 9 E B a b = upd f 3 1 := rfl
    rw [e2]
    refine ⟨⟨h1.e, h1.b, Or.inr rfl, h1.rs, h1.rf, h1.ev, h1.bi⟩, ?_⟩
    have key : ∀ k, k ≠ 3 → upd f 3 1 k = f k := fun k hk => upd_ne _ _ hk
    exact ⟨(key 0 (by decide)).trans h2.e, (key 1 (by decide)).trans h2.b, rfl, (key 4 (by decide)).trans h2.rs, (key 5 (by decide)).trans h2.rf, fun i hi => by rw [key _ (by omega), key _ (by omega)]; exact h2.ev i hi, fun j hj => by rw [key _ (by omega), key _ (by omega), key _ (by omega)]; exact h2.bi j hj⟩
  · have e2 : dOut f 10 E B a b = upd f 4 a := rfl
    rw [e2]
    refine ⟨⟨h1.e, h1.b, h1.ru, hn.2.1 (Or.inr rfl), h1.rf, h1.ev, h1.bi⟩, ?_⟩
    have key : ∀ k, k ≠ 4 → upd f 4 a k = f k := fun k hk => upd_ne _ _ hk
    exact ⟨(key 0 (by decide)).trans h2.e, (key 1 (by decide)).trans h2.b, (key 3 (by decide)).trans h2.ru, rfl, (key 5 (by decide)).trans h2.rf, fun i hi => by rw [key _ (by omega), key _ (by omega)]; exact h2.ev i hi, fun j hj => by rw [key _ (by omega), key _ (by omega), key _ (by omega)]; exact h2.bi j hj⟩
  · have e2 : dOut f 11 E B a b = upd f 5 a := rfl
    rw [e2]
    refine ⟨⟨h1.e, h1.b, h1.ru, h1.rs, hn.1 (Or.inr rfl), h1.ev, h1.bi⟩, ?_⟩
    have key : ∀ k, k ≠ 5 → upd f 5 a k = f k := fun k hk => upd_ne _ _ hk
    exact ⟨(key 0 (by decide)).trans h2.e, (key 1 (by decide)).trans h2.b, (key 3 (by decide)).trans h2.ru, (key 4 (by decide)).trans h2.rs, rfl, fun i hi => by rw [key _ (by omega), key _ (by omega)]; exact h2.ev i hi, fun j hj => by rw [key _ (by omega), key _ (by omega), key _ (by omega)]; exact h2.bi j hj⟩
  · have e2 : dOut f 12 E B a b = upd f 0 0 := rfl
    rw [e2]
    refine ⟨⟨⟨Nat.zero_le 7, rfl⟩, h1.b, h1.ru, h1.rs, h1.rf, fun i hi => absurd hi (Nat.not_lt_zero i), h1.bi⟩, ?_⟩
    have key : ∀ k, k ≠ 0 → upd f 0 0 k = f k := fun k hk => upd_ne _ _ hk
    exact ⟨rfl, (key 1 (by decide)).trans h2.b, (key 3 (by decide)).trans h2.ru, (key 4 (by decide)).trans h2.rs, (key 5 (by decide)).trans h2.rf, fun i hi => absurd hi (Nat.not_lt_zero i), fun j hj => by rw [key _ (by omega), key _ (by omega), key _ (by omega)]; exact h2.bi j hj⟩
theorem tt_list : ∀ (l : List (Nat × Int32 × Int32)) (σ : Mem) (f : Nat → Int32) (E B : Nat), VaL l E B → (∀ y, y ∈ l → NuX y) → TolOk σ E B → TolR σ f E B → ∃ E2 B2, TolOk (cOutL σ l E B) E2 B2 ∧ TolR (cOutL σ l E B) (dOutL f l E B) E2 B2
  | [], _, _, E, B, _, _, h1, h2 => ⟨E, B, h1, h2⟩
  | y :: l, σ, f, E, B, hv, hn, h1, h2 => by
    obtain ⟨v1, v2, v3⟩ := hv
    have hs := tt_step (a := y.2.1) (b := y.2.2) h1 h2 v1 v2 (hn y List.mem_cons_self)
    rw [cOutL, dOutL]
    exact tt_list l _ _ _ _ v3 (fun z hz => hn z (List.mem_cons_of_mem _ hz)) hs.1 hs.2
theorem op_west (h : IV σ μ E B t L n x s) {v1 v2 : Int32} (hc : (¬ (ffT (σ 2) L 14 0 E B).1 = -1 → v1 = -4 ∧ σ' 1 1 = σ 1 1 ∧ ∀ q, q ≠ 1 → q ≠ 3 → q ≠ 4 → q ≠ 5 → σ' q = σ q) ∧ ((ffT (σ 2) L 14 0 E B).1 = -1 → v1 = nI (ffT (σ 2) L 14 0 E B).2.length ∧ WeQ σ' σ (ffT (σ 2) L 14 0 E B).2 E B))
    (hm : (¬ (ffT (μ 6) L 14 0 E B).1 = -1 → v2 = -4 ∧ (∀ k, k < 11 ∨ 16 < k → μ' 0 k = μ 0 k) ∧ ∀ q, q ≠ 0 → q ≠ 2 → μ' q = μ q) ∧ ((ffT (μ 6) L 14 0 E B).1 = -1 → v2 = nI (ffT (μ 6) L 14 0 E B).2.length ∧ WmQ μ' μ (ffT (μ 6) L 14 0 E B).2 E B)) : v1 = v2 ∧ Inv σ' μ' := by
  have hE := h.tok.e.1
  have hB := h.tok.b.1
  rw [h.tl] at hc
  have hva := ffT_ok (μ 6) L 14 0 E B
  have hnu := ffT_nu (μ 6) L 14 0 E B (Nat.zero_le _)
  generalize ffT (μ 6) L 14 0 E B = R at *
  by_cases q : R.1 = -1
  · obtain ⟨rfl, ⟨σ1, c1, c2⟩, c3, c4, c5, c6, c7, c8, c9⟩ := hc.2 q
    obtain ⟨rfl, m1, m2, m3, m4, m5, m6, m7⟩ := hm.2 q
    have t1 : TolOk σ1 E B := h.tok.cg (fun q _ _ => c1 q (by omega) (by omega) (by omega) (by omega))
    have t2 : TolR σ1 (va_cpy (μ 1) (μ 2) 0 0 100) E B := h.tol.cg hE hB (fun q _ _ => c1 q (by omega) (by omega) (by omega) (by omega)) (fun k hk => by
      have := cpy_in (f := μ 1) (h := μ 2) (a := 0) (b := 0) hk
      rw [Nat.zero_add] at this; exact this)
    obtain ⟨E2, B2, g1, g2⟩ := tt_list R.2 σ1 _ E B hva hnu t1 t2
    have k1 := g1.cg (σ' := σ') c2
    have hE2 := k1.e.1
    have hB2 := k1.b.1
    have key : ∀ k, k < 100 → k < 2 ∨ (3 ≤ k ∧ k < 6) ∨ (7 ≤ k ∧ k < 70 ∧ (k - 7) % 9 < 2) ∨ (70 ≤ k ∧ (k - 70) % 6 < 3) → μ' 1 k = dOutL (va_cpy (μ 1) (μ 2) 0 0 100) R.2 E B k := by
      intro k hk hk2
      rcases m1 k hk with (rfl | rfl | ⟨e, j, e1, e2, e3, rfl⟩ | ⟨b, j, e1, e2, e3, rfl⟩) | y
      · omega
      · omega
      · have : (7 + 9 * e + j - 7) % 9 = j := by omega
        omega
      · have : (70 + 6 * b + j - 70) % 6 = j := by omega
        omega
      · exact y
    have g3 := g2.cg (σ' := σ') hE2 hB2 c2 (fun _ _ => rfl)
    have k2 : TolR σ' (μ' 1) E2 B2 := by
      refine ⟨(key 0 (by decide) (by omega)).trans g3.e, (key 1 (by decide) (by omega)).trans g3.b, (key 3 (by decide) (by omega)).trans g3.ru, (key 4 (by decide) (by omega)).trans g3.rs, (key 5 (by decide) (by omega)).trans g3.rf, fun i hi => ?_, fun j hj => ?_⟩
      · rw [key _ (by omega) (by omega), key _ (by omega) (by omega)]; exact g3.ev i hi
      · rw [key _ (by omega) (by omega), key _ (by omega) (by omega), key _ (by omega) (by omega)]; exact g3.bi j hj
    refine ⟨rfl, E2, B2, 0, 0, 0, x, 0, k1, k2, ⟨m2.1.trans c3.1.symm, m2.2.trans c3.2.symm, fun j hj => ?_, fun i hi => ?_⟩, ⟨⟨Nat.zero_le _, c3.1⟩, fun j hj => ?_, fun j j1 j2 => ?_, fun i hi => absurd hi (Nat.not_lt_zero i), fun i _ hi => (c5 i hi).2.1⟩, ⟨by decide, c7.1, m5.1⟩, ?_, fun i hi => absurd hi (Nat.not_lt_zero i), ⟨by decide, c7.2.2.1, m5.2.2⟩, ⟨h.ne.1, c7.2.2.2.trans h.ne.2⟩, fun i hi => absurd hi (Nat.not_lt_zero i), fun j hj => ?_, ⟨by decide, c7.2.1, m5.2.1⟩, fun i hi => absurd hi (Nat.not_lt_zero i)⟩
    · obtain ⟨p1, p2, p3⟩ := c4 j (by omega)
      obtain ⟨n1, n2, n3⟩ := m4 j (by omega)
      refine ⟨?_, n2.trans p2.symm, n3.trans p3.symm⟩
      show _ = σ' 13 j
      rw [n1, p1, (k2.bi j hj).2.2]
    · obtain ⟨p1, p2, p3, p4⟩ := c5 i (by omega)
      obtain ⟨n1, n2, n3, n4, n5⟩ := m3 i (by omega)
      exact ⟨n1.trans p1.symm, n2.trans p2.symm, n3.trans p3.symm, n4.trans p4.symm, fun k hk => (n5 k hk).trans (c6 (k * 7 + i) (by omega)).symm⟩
    · obtain ⟨p1, p2, p3⟩ := c4 j (by omega)
      obtain ⟨te, h5, h6⟩ := (k1.bi j hj).2.2
      refine ⟨10 * te, by omega, ?_, Or.inl p3⟩
      show σ' 13 j = _
      rw [p1, h6]; exact pk_mul 10 te
    · exact ⟨(c4 j j2).2.1, (c4 j j2).2.2⟩
    · rw [c9, m7]; exact h.tl
    · rcases (show j = 0 ∨ j = 1 by omega) with rfl | rfl
      · exact ⟨c8.1.trans m6.1.symm, fun y => absurd m6.1 y⟩
      · exact ⟨c8.2.trans m6.2.symm, fun y => absurd m6.2 y⟩
  · obtain ⟨rfl, c1, c2⟩ := hc.1 q
    obtain ⟨rfl, m1, m2⟩ := hm.1 q
    exact ⟨rfl, (h.same ⟨c1, fun q hq => c2 q (by omega) (by omega) (by omega) (by omega)⟩ ⟨fun k hk => m1 k (by omega), fun q q1 q2 _ => m2 q q1 q2⟩).inv⟩
end PURE
