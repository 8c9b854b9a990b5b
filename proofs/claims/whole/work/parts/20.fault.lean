/-- the text read from p on, c clauses at most: where its fault is (-1: none), its clauses -/
def ffT (tx : Nat → Int32) (L : Nat) : Nat → Nat → Nat → Nat → Int32 × List (Nat × Int32 × Int32)
  | 0, _, _, _ => (0, [])
  | c + 1, p, E, B => match clP tx L p E B with
    | .inl f => (nI f, [])
    | .inr (p2, w, a, b) => if L ≤ tkB tx L p2 then (-1, [(w, a, b)]) else if ¬ tx (tkB tx L p2) = 59 then (nI (tkB tx L p2), [(w, a, b)]) else if c = 0 then (nI (tkB tx L p2), [(w, a, b)])
      else ((ffT tx L c (tkE tx L (tkB tx L p2)) (alE w E) (alB w B)).1, (w, a, b) :: (ffT tx L c (tkE tx L (tkB tx L p2)) (alE w E) (alB w B)).2)
theorem ffT_len (tx : Nat → Int32) (L : Nat) : ∀ (c p E B : Nat), (ffT tx L c p E B).2.length ≤ c
  | 0, _, _, _ => Nat.le_refl _
  | c + 1, p, E, B => by
    have ih := ffT_len tx L c
    rw [ffT]
    split
    · exact Nat.zero_le _
    · split
      · simp
      · split
        · simp
        · split
          · simp
          · simp only [List.length_cons]; exact Nat.succ_le_succ (ih _ _ _)
/-- what findFault leaves: cl from place i on -/
def FfQ (σ' σ : Mem) (r : Int32 × List (Nat × Int32 × Int32)) (i : Nat) (v : Int32) : Prop :=
  v = r.1 ∧ (r.1 = -1 → σ' 1 2 = nI (i + r.2.length) ∧ ∀ k x, r.2[k]? = some x → σ' 3 (i + k) = nI x.1 ∧ σ' 4 (i + k) = x.2.1 ∧ σ' 5 (i + k) = x.2.2) ∧ σ' 1 1 = σ 1 1 ∧ (∀ k, k < i → σ' 3 k = σ 3 k ∧ σ' 4 k = σ 4 k ∧ σ' 5 k = σ 5 k) ∧ ∀ q, q ≠ 1 → q ≠ 3 → q ≠ 4 → q ≠ 5 → σ' q = σ q
theorem alE_lt {w E c : Nat} (h : E ≤ 7 + c) : alE w E ≤ 7 + (c + 1) := by unfold alE; split; omega; split <;> omega
theorem alB_lt {w B c : Nat} (h : B ≤ 7 + c) : alB w B ≤ 7 + (c + 1) := by unfold alB; split; omega; split <;> omega
/-- no place in a text is -1 -/
theorem nI_nm1_big {n : Nat} (h : n < 2 ^ 31) : ¬ nI n = -1 := fun e => absurd (show nI n < 0 by rw [e]; decide) (nI_pos h)
theorem clP_inl {tx : Nat → Int32} {L p E B f : Nat} (hp : p ≤ L) (h : clP tx L p E B = .inl f) : f ≤ L := by
  have i0 := tkB_in (tx := tx) hp
  have j0 := tkE_in (tx := tx) i0.2
  have i1 := tkB_in (tx := tx) j0.2.1
  have j1 := tkE_in (tx := tx) i1.2
  have i2 := tkB_in (tx := tx) j1.2.1
  rw [clP_at rfl rfl rfl rfl rfl rfl rfl] at h
  split at h
  · have := Sum.inl.inj h; omega
  · split at h
    · have := Sum.inl.inj h; omega
    · split at h
      · cases h
      · split at h
        · have := Sum.inl.inj h; omega
        · split at h
          · cases h
          · split at h
            · have := Sum.inl.inj h; omega
            · cases h
set_option maxRecDepth 100000 in
set_option maxHeartbeats 4000000 in
theorem c_X5_findFault {l : Launch} {g : Gx} (hg : ApG 123 g.ad) (σ : Mem) {L E B : Nat} (hL : L ≤ 160) (eL : σ 1 1 = nI L) (hE : E ≤ 7) (hB : B ≤ 7) : CtI l (OC g) 7 mX5_findFault [.ref (g.ad 1), .int (nI E), .int (nI B)] σ (fun v σ' => FfQ σ' σ (ffT (σ 2) L 14 0 E B) 0 v) := by
  refine ct_of (lv := [some (.ref (g.ad 1)), some (.int (nI E)), some (.int (nI B)), none]) (okC hg) (by decide +kernel) (Nat.le_of_ble_eq_true rfl) (fun ls h => lvh_entry h rfl 1) ?_
  intro κ hl hnL cx hR
  subst hl
  have cx : Cx κ (OC g) RX5 cX5_findFault 7 := cx
  have hnL : κ.nL = 4 := hnL
  have loop : ∀ (c i p E9 B9 : Nat), i + (c + 1) = 14 → p ≤ L → E9 ≤ 7 + i → B9 ≤ 7 + i → ∀ τ : Mem, τ 1 1 = nI L → τ 1 7 = nI p → τ 1 8 = nI E9 → τ 1 9 = nI B9 → τ 1 2 = nI i → τ 2 = σ 2 →
      (∀ (v : Int32) (τ2 : Mem), FfQ τ2 τ (ffT (σ 2) L (c + 1) p E9 B9) i v → FfQ τ2 σ (ffT (σ 2) L 14 0 E B) 0 v) →
      Z κ (OC g) τ 22 [some (.ref (g.ad 1)), some (.int (nI E)), some (.int (nI B)), some (.int (nI i))] [] := by
    intro c
    induction c with
    | zero =>
      intro i p E9 B9 h1 h2 h3 h4 τ t1 t7 t8 t9 t2 te hk
      refine z_iload_n cx 3 dX5_findFault_22 rfl rfl ?_
      refine z_bipush cx dX5_findFault_23 bi_14 ?_
      refine z_icmp_ge (tgt := 93) cx dX5_findFault_25 (by decide) (fun c_25 => ?_) (fun c_25 => ?_)
      · exact absurd ((nI_leI (a := 14) (by decide) (by omega)).mp c_25) (by omega)
      · refine z_aload_n cx 0 dX5_findFault_28 rfl rfl ?_
        refine z_iload_n cx 3 dX5_findFault_29 rfl rfl ?_
        refine z_V1I cx vX5_readClause kX5_40 (c_X5_readClause hg τ hL t1 h2 t7 (by omega) (by omega) t8 t9 (i := i) (by omega)) (by decide) hC1 rfl rfl (Nat.le_of_ble_eq_true rfl) dX5_findFault_30 (fun v_30 σ_30 h_30 => ?_)
        unfold ClQ at h_30
        rw [te] at h_30
        obtain ⟨hm, ⟨r11, r12⟩, rk, rq⟩ := h_30
        generalize hC : clP (σ 2) L p E9 B9 = C at hm
        rcases C with f | ⟨p2, w, a, b⟩
        · obtain ⟨rfl, m6⟩ := hm
          have hf9 : f ≤ L := clP_inl h2 hC
          refine z_if_ne (tgt := 41) cx dX5_findFault_33 (by decide) (fun z => absurd rfl z) (fun _ => ?_)
          refine z_aload_n cx 0 dX5_findFault_36 rfl rfl ?_
          refine gX5_44 cx dX5_findFault_37 ?_
          rw [m6]
          refine z_iret cx hR ⟨_, rfl, hk _ _ ?_⟩ dX5_findFault_40
          have e9 : ffT (σ 2) L (0 + 1) p E9 B9 = (nI f, []) := by rw [ffT, hC]
          rw [e9]
          exact ⟨rfl, fun z => absurd z (nI_nm1_big (by omega)), r11, fun k hkk => rk k (by omega), rq⟩
        obtain ⟨rfl, l2, l3, m7, m3, m4, m5, m8, m9⟩ := hm
        refine z_if_ne (tgt := 41) cx dX5_findFault_33 (by decide) (fun _ => ?_) (fun z => absurd z (by decide))
        refine z_aload_n cx 0 dX5_findFault_41 rfl rfl ?_
        refine z_dup cx dX5_findFault_42 rfl ?_
        refine gX5_34 cx dX5_findFault_43 ?_
        refine z_iconst cx dX5_findFault_46 ic_1 ?_
        refine z_iadd cx dX5_findFault_47 ?_
        rw [show σ_30 1 2 + 1 = nI (i + 1) by rw [r12, t2, nI_1]]
        refine pX5_34 cx dX5_findFault_48 ?_
        have w11 : (up2 σ_30 1 2 (nI (i + 1))) 1 1 = nI L := r11.trans t1
        have w17 : (up2 σ_30 1 2 (nI (i + 1))) 1 7 = nI p2 := m7
        have w18 : (up2 σ_30 1 2 (nI (i + 1))) 1 8 = nI (alE w E9) := m8
        have w19 : (up2 σ_30 1 2 (nI (i + 1))) 1 9 = nI (alB w B9) := m9
        have wq : ∀ q, q ≠ 1 → (up2 σ_30 1 2 (nI (i + 1))) q = σ_30 q := fun q hq => up2_ne _ _ _ hq
        have w12 : (up2 σ_30 1 2 (nI (i + 1))) 1 2 = nI (i + 1) := rfl
        generalize hρ : up2 σ_30 1 2 (nI (i + 1)) = ρ at *
        have s2 : σ_30 2 = σ 2 := (rq 2 (by decide) (by decide) (by decide) (by decide)).trans te
        have ρ2 : ρ 2 = σ 2 := (wq 2 (by decide)).trans s2
        refine z_aload_n cx 0 dX5_findFault_51 rfl rfl ?_
        refine z_V0V cx vX5_readToken kX5_47 (c_X5_readToken hg ρ hL w11 l2 w17) (by decide) hC1 rfl rfl (Nat.le_of_ble_eq_true rfl) dX5_findFault_52 (fun σ_52 h_52 => ?_)
        obtain ⟨⟨u6, u7⟩, uO⟩ := h_52
        rw [ρ2] at u6 u7
        have hb9 := tkB_in (tx := σ 2) l2
        have he9 := tkE_in (tx := σ 2) hb9.2
        have v11 : σ_52 1 1 = nI L := (uO.1 1 (by decide) (by decide)).trans w11
        have v12 : σ_52 1 2 = nI (i + 1) := (uO.1 2 (by decide) (by decide)).trans w12
        have vq : ∀ q, q ≠ 1 → σ_52 q = σ_30 q := fun q hq => (uO.2 q hq).trans (wq q hq)
        have v2 : σ_52 2 = σ 2 := (vq 2 (by decide)).trans s2
        have fin : ∀ (v : Int32) (l : List (Nat × Int32 × Int32)), ffT (σ 2) L (0 + 1) p E9 B9 = (v, [(w, a, b)]) → FfQ σ_52 τ (ffT (σ 2) L (0 + 1) p E9 B9) i v := by
          intro v l e9
          rw [e9]
          refine ⟨rfl, fun _ => ⟨v12, fun k x hx => ?_⟩, v11.trans t1.symm, fun k hkk => ?_, fun q g1 g3 g4 g5 => (vq q g1).trans (rq q g1 g3 g4 g5)⟩
          · have hk0 : k = 0 := by have := (List.getElem?_eq_some_iff.mp hx).1; simp at this; omega
            subst hk0
            have : x = (w, a, b) := (Option.some.inj hx).symm
            subst this
            exact ⟨(congrFun (vq 3 (by decide)) _).trans m3, (congrFun (vq 4 (by decide)) _).trans m4, (congrFun (vq 5 (by decide)) _).trans m5⟩
          · have := rk k (by omega)
            exact ⟨(congrFun (vq 3 (by decide)) _).trans this.1, (congrFun (vq 4 (by decide)) _).trans this.2.1, (congrFun (vq 5 (by decide)) _).trans this.2.2⟩
        refine z_aload_n cx 0 dX5_findFault_55 rfl rfl ?_
        refine gX5_44 cx dX5_findFault_56 ?_
        refine z_aload_n cx 0 dX5_findFault_59 rfl rfl ?_
        refine gX5_24 cx dX5_findFault_60 ?_
        rw [u6, v11]
        refine z_icmp_lt (tgt := 68) cx dX5_findFault_63 (by decide) (fun c_63 => ?_) (fun c_63 => ?_)
        · have c63 : tkB (σ 2) L p2 < L := (nI_ltI (by omega) (by omega)).mp c_63
          refine z_aload_n cx 0 dX5_findFault_68 rfl rfl ?_
          refine gX5_9 cx dX5_findFault_69 ?_
          refine z_aload_n cx 0 dX5_findFault_72 rfl rfl ?_
          refine gX5_44 cx dX5_findFault_73 ?_
          refine g_ialdN cx (tkB (σ 2) L p2) (by decide) (fun _ => rfl) u6 (by omega) (by decide) dX5_findFault_76 ?_
          rw [v2]
          refine z_bipush cx dX5_findFault_77 bi_59 ?_
          refine z_icmp_eq (tgt := 87) cx dX5_findFault_79 (by decide) (fun c_79 => ?_) (fun c_79 => ?_)
          · refine z_iinc cx dX5_findFault_87 rfl ic_1 (nI_1 i) hnL (by decide) rfl ?_
            refine z_goto (tgt := 22) cx dX5_findFault_90 (by decide) ?_
            refine z_iload_n cx 3 dX5_findFault_22 rfl rfl ?_
            refine z_bipush cx dX5_findFault_23 bi_14 ?_
            refine z_icmp_ge (tgt := 93) cx dX5_findFault_25 (by decide) (fun _ => ?_) (fun z => absurd (show nI 14 ≤ nI (i + 1) by rw [show i + 1 = 14 by omega]; exact Int32.le_refl _) z)
            refine z_aload_n cx 0 dX5_findFault_93 rfl rfl ?_
            refine gX5_44 cx dX5_findFault_94 ?_
            rw [u6]
            exact z_iret cx hR ⟨_, rfl, hk _ _ (fin _ [] (by rw [ffT, hC]; simp only [if_neg (show ¬ L ≤ tkB (σ 2) L p2 by omega), c_79, not_true, if_false, if_true]))⟩ dX5_findFault_97
          · refine z_aload_n cx 0 dX5_findFault_82 rfl rfl ?_
            refine gX5_44 cx dX5_findFault_83 ?_
            rw [u6]
            exact z_iret cx hR ⟨_, rfl, hk _ _ (fin _ [] (by rw [ffT, hC]; simp only [if_neg (show ¬ L ≤ tkB (σ 2) L p2 by omega), c_79, not_false_eq_true, if_true]))⟩ dX5_findFault_86
        · have c63 : L ≤ tkB (σ 2) L p2 := Nat.not_lt.mp (fun z => c_63 (nI_lt z (by omega)))
          refine z_iconst cx dX5_findFault_66 ic_m1 ?_
          exact z_iret cx hR ⟨_, rfl, hk _ _ (fin _ [] (by rw [ffT, hC]; simp only [if_pos c63]))⟩ dX5_findFault_67
    | succ c ih =>
      intro i p E9 B9 h1 h2 h3 h4 τ t1 t7 t8 t9 t2 te hk
      refine z_iload_n cx 3 dX5_findFault_22 rfl rfl ?_
      refine z_bipush cx dX5_findFault_23 bi_14 ?_
      refine z_icmp_ge (tgt := 93) cx dX5_findFault_25 (by decide) (fun c_25 => ?_) (fun c_25 => ?_)
      · exact absurd ((nI_leI (a := 14) (by decide) (by omega)).mp c_25) (by omega)
      · refine z_aload_n cx 0 dX5_findFault_28 rfl rfl ?_
        refine z_iload_n cx 3 dX5_findFault_29 rfl rfl ?_
        refine z_V1I cx vX5_readClause kX5_40 (c_X5_readClause hg τ hL t1 h2 t7 (by omega) (by omega) t8 t9 (i := i) (by omega)) (by decide) hC1 rfl rfl (Nat.le_of_ble_eq_true rfl) dX5_findFault_30 (fun v_30 σ_30 h_30 => ?_)
        unfold ClQ at h_30
        rw [te] at h_30
        obtain ⟨hm, ⟨r11, r12⟩, rk, rq⟩ := h_30
        generalize hC : clP (σ 2) L p E9 B9 = C at hm
        rcases C with f | ⟨p2, w, a, b⟩
        · obtain ⟨rfl, m6⟩ := hm
          have hf9 : f ≤ L := clP_inl h2 hC
          refine z_if_ne (tgt := 41) cx dX5_findFault_33 (by decide) (fun z => absurd rfl z) (fun _ => ?_)
          refine z_aload_n cx 0 dX5_findFault_36 rfl rfl ?_
          refine gX5_44 cx dX5_findFault_37 ?_
          rw [m6]
          refine z_iret cx hR ⟨_, rfl, hk _ _ ?_⟩ dX5_findFault_40
          have e9 : ffT (σ 2) L ((c + 1) + 1) p E9 B9 = (nI f, []) := by rw [ffT, hC]
          rw [e9]
          exact ⟨rfl, fun z => absurd z (nI_nm1_big (by omega)), r11, fun k hkk => rk k (by omega), rq⟩
        obtain ⟨rfl, l2, l3, m7, m3, m4, m5, m8, m9⟩ := hm
        refine z_if_ne (tgt := 41) cx dX5_findFault_33 (by decide) (fun _ => ?_) (fun z => absurd z (by decide))
        refine z_aload_n cx 0 dX5_findFault_41 rfl rfl ?_
        refine z_dup cx dX5_findFault_42 rfl ?_
        refine gX5_34 cx dX5_findFault_43 ?_
        refine z_iconst cx dX5_findFault_46 ic_1 ?_
        refine z_iadd cx dX5_findFault_47 ?_
        rw [show σ_30 1 2 + 1 = nI (i + 1) by rw [r12, t2, nI_1]]
        refine pX5_34 cx dX5_findFault_48 ?_
        have w11 : (up2 σ_30 1 2 (nI (i + 1))) 1 1 = nI L := r11.trans t1
        have w17 : (up2 σ_30 1 2 (nI (i + 1))) 1 7 = nI p2 := m7
        have w18 : (up2 σ_30 1 2 (nI (i + 1))) 1 8 = nI (alE w E9) := m8
        have w19 : (up2 σ_30 1 2 (nI (i + 1))) 1 9 = nI (alB w B9) := m9
        have wq : ∀ q, q ≠ 1 → (up2 σ_30 1 2 (nI (i + 1))) q = σ_30 q := fun q hq => up2_ne _ _ _ hq
        have w12 : (up2 σ_30 1 2 (nI (i + 1))) 1 2 = nI (i + 1) := rfl
        generalize hρ : up2 σ_30 1 2 (nI (i + 1)) = ρ at *
        have s2 : σ_30 2 = σ 2 := (rq 2 (by decide) (by decide) (by decide) (by decide)).trans te
        have ρ2 : ρ 2 = σ 2 := (wq 2 (by decide)).trans s2
        refine z_aload_n cx 0 dX5_findFault_51 rfl rfl ?_
        refine z_V0V cx vX5_readToken kX5_47 (c_X5_readToken hg ρ hL w11 l2 w17) (by decide) hC1 rfl rfl (Nat.le_of_ble_eq_true rfl) dX5_findFault_52 (fun σ_52 h_52 => ?_)
        obtain ⟨⟨u6, u7⟩, uO⟩ := h_52
        rw [ρ2] at u6 u7
        have hb9 := tkB_in (tx := σ 2) l2
        have he9 := tkE_in (tx := σ 2) hb9.2
        have v11 : σ_52 1 1 = nI L := (uO.1 1 (by decide) (by decide)).trans w11
        have v12 : σ_52 1 2 = nI (i + 1) := (uO.1 2 (by decide) (by decide)).trans w12
        have vq : ∀ q, q ≠ 1 → σ_52 q = σ_30 q := fun q hq => (uO.2 q hq).trans (wq q hq)
        have v2 : σ_52 2 = σ 2 := (vq 2 (by decide)).trans s2
        have fin : ∀ (v : Int32) (l : List (Nat × Int32 × Int32)), ffT (σ 2) L ((c + 1) + 1) p E9 B9 = (v, [(w, a, b)]) → FfQ σ_52 τ (ffT (σ 2) L ((c + 1) + 1) p E9 B9) i v := by
          intro v l e9
          rw [e9]
          refine ⟨rfl, fun _ => ⟨v12, fun k x hx => ?_⟩, v11.trans t1.symm, fun k hkk => ?_, fun q g1 g3 g4 g5 => (vq q g1).trans (rq q g1 g3 g4 g5)⟩
          · have hk0 : k = 0 := by have := (List.getElem?_eq_some_iff.mp hx).1; simp at this; omega
            subst hk0
            have : x = (w, a, b) := (Option.some.inj hx).symm
            subst this
            exact ⟨(congrFun (vq 3 (by decide)) _).trans m3, (congrFun (vq 4 (by decide)) _).trans m4, (congrFun (vq 5 (by decide)) _).trans m5⟩
          · have := rk k (by omega)
            exact ⟨(congrFun (vq 3 (by decide)) _).trans this.1, (congrFun (vq 4 (by decide)) _).trans this.2.1, (congrFun (vq 5 (by decide)) _).trans this.2.2⟩
        refine z_aload_n cx 0 dX5_findFault_55 rfl rfl ?_
        refine gX5_44 cx dX5_findFault_56 ?_
        refine z_aload_n cx 0 dX5_findFault_59 rfl rfl ?_
        refine gX5_24 cx dX5_findFault_60 ?_
        rw [u6, v11]
        refine z_icmp_lt (tgt := 68) cx dX5_findFault_63 (by decide) (fun c_63 => ?_) (fun c_63 => ?_)
        · have c63 : tkB (σ 2) L p2 < L := (nI_ltI (by omega) (by omega)).mp c_63
          refine z_aload_n cx 0 dX5_findFault_68 rfl rfl ?_
          refine gX5_9 cx dX5_findFault_69 ?_
          refine z_aload_n cx 0 dX5_findFault_72 rfl rfl ?_
          refine gX5_44 cx dX5_findFault_73 ?_
          refine g_ialdN cx (tkB (σ 2) L p2) (by decide) (fun _ => rfl) u6 (by omega) (by decide) dX5_findFault_76 ?_
          rw [v2]
          refine z_bipush cx dX5_findFault_77 bi_59 ?_
          refine z_icmp_eq (tgt := 87) cx dX5_findFault_79 (by decide) (fun c_79 => ?_) (fun c_79 => ?_)
          · refine z_iinc cx dX5_findFault_87 rfl ic_1 (nI_1 i) hnL (by decide) rfl ?_
            refine z_goto (tgt := 22) cx dX5_findFault_90 (by decide) ?_
            refine ih (i + 1) (tkE (σ 2) L (tkB (σ 2) L p2)) (alE w E9) (alB w B9) (by omega) he9.2.1 (alE_lt h3) (alB_lt h4) σ_52 v11 u7 ((uO.1 8 (by decide) (by decide)).trans w18) ((uO.1 9 (by decide) (by decide)).trans w19) v12 v2 (fun v τ2 hF => hk v τ2 ?_)
            have e9 : ffT (σ 2) L (c + 1 + 1) p E9 B9 = ((ffT (σ 2) L (c + 1) (tkE (σ 2) L (tkB (σ 2) L p2)) (alE w E9) (alB w B9)).1, (w, a, b) :: (ffT (σ 2) L (c + 1) (tkE (σ 2) L (tkB (σ 2) L p2)) (alE w E9) (alB w B9)).2) := by
              rw [ffT, hC]
              simp only [if_neg (show ¬ L ≤ tkB (σ 2) L p2 by omega), c_79, not_true, if_false, if_neg (show ¬ c + 1 = 0 by omega)]
            rw [e9]
            obtain ⟨f1, f2, f3, f4, f5⟩ := hF
            refine ⟨f1, fun z => ⟨?_, fun k x hx => ?_⟩, f3.trans (v11.trans t1.symm), fun k hkk => ?_, fun q g1 g3 g4 g5 => (f5 q g1 g3 g4 g5).trans ((vq q g1).trans (rq q g1 g3 g4 g5))⟩
            · rw [(f2 z).1]; simp only [List.length_cons]; congr 1; omega
            · cases k with
              | zero =>
                have e8 : x = (w, a, b) := (Option.some.inj hx).symm
                subst e8
                have := f4 i (by omega)
                exact ⟨this.1.trans ((congrFun (vq 3 (by decide)) _).trans m3), this.2.1.trans ((congrFun (vq 4 (by decide)) _).trans m4), this.2.2.trans ((congrFun (vq 5 (by decide)) _).trans m5)⟩
              | succ k =>
                have := (f2 z).2 k x (by simpa using hx)
                rw [show i + (k + 1) = i + 1 + k by omega]
                exact this
            · have h8 := f4 k (by omega)
              have := rk k (by omega)
              exact ⟨h8.1.trans ((congrFun (vq 3 (by decide)) _).trans this.1), h8.2.1.trans ((congrFun (vq 4 (by decide)) _).trans this.2.1), h8.2.2.trans ((congrFun (vq 5 (by decide)) _).trans this.2.2)⟩
          · refine z_aload_n cx 0 dX5_findFault_82 rfl rfl ?_
            refine gX5_44 cx dX5_findFault_83 ?_
            rw [u6]
            exact z_iret cx hR ⟨_, rfl, hk _ _ (fin _ [] (by rw [ffT, hC]; simp only [if_neg (show ¬ L ≤ tkB (σ 2) L p2 by omega), c_79, not_false_eq_true, if_true]))⟩ dX5_findFault_86
        · have c63 : L ≤ tkB (σ 2) L p2 := Nat.not_lt.mp (fun z => c_63 (nI_lt z (by omega)))
          refine z_iconst cx dX5_findFault_66 ic_m1 ?_
          exact z_iret cx hR ⟨_, rfl, hk _ _ (fin _ [] (by rw [ffT, hC]; simp only [if_pos c63]))⟩ dX5_findFault_67
  refine z_aload_n cx 0 dX5_findFault_0 rfl rfl ?_
  refine z_iload_n cx 1 dX5_findFault_1 rfl rfl ?_
  refine pX5_28 cx dX5_findFault_2 ?_
  refine z_aload_n cx 0 dX5_findFault_5 rfl rfl ?_
  refine z_iload_n cx 2 dX5_findFault_6 rfl rfl ?_
  refine pX5_31 cx dX5_findFault_7 ?_
  refine z_aload_n cx 0 dX5_findFault_10 rfl rfl ?_
  refine z_iconst cx dX5_findFault_11 ic_0 ?_
  refine pX5_34 cx dX5_findFault_12 ?_
  refine z_aload_n cx 0 dX5_findFault_15 rfl rfl ?_
  refine z_iconst cx dX5_findFault_16 ic_0 ?_
  refine pX5_37 cx dX5_findFault_17 ?_
  refine z_iconst cx dX5_findFault_20 ic_0 ?_
  refine z_istore_n cx 3 dX5_findFault_21 rfl hnL (by decide) rfl ?_
  refine loop 13 0 0 E B (by omega) (by omega) (by omega) (by omega) _ eL rfl rfl rfl rfl rfl (fun v τ2 hF => ?_)
  obtain ⟨f1, f2, f3, f4, f5⟩ := hF
  exact ⟨f1, f2, f3, fun k hk => absurd hk (by omega), fun q g1 g3 g4 g5 => (f5 q g1 g3 g4 g5).trans (by rw [up2_ne _ _ _ g1, up2_ne _ _ _ g1, up2_ne _ _ _ g1, up2_ne _ _ _ g1])⟩
