def inW (n top : Int32) : Bool := !decide (n < 0) && !decide (top < n)
def ow (rs : Int32) (bd : Nat → Int32) : Nat → Int32
  | 0 => -1
  | n + 1 => if bd n < rs then ow rs bd n else if ow rs bd n = -1 then nI n else if bd n ≤ bd (ow rs bd n).toNatClampNeg then ow rs bd n else nI n
theorem ow_rng (rs : Int32) (bd : Nat → Int32) : ∀ n : Nat, ow rs bd n = -1 ∨ ∃ j, j < n ∧ ow rs bd n = nI j
  | 0 => Or.inl rfl
  | n + 1 => by
    have ih := ow_rng rs bd n
    simp only [ow]
    split
    · rcases ih with h | ⟨j, h1, h2⟩
      · exact Or.inl h
      · exact Or.inr ⟨j, by omega, h2⟩
    · split
      · exact Or.inr ⟨n, by omega, rfl⟩
      · split
        · rcases ih with h | ⟨j, h1, h2⟩
          · exact Or.inl h
          · exact Or.inr ⟨j, by omega, h2⟩
        · exact Or.inr ⟨n, by omega, rfl⟩
set_option maxRecDepth 100000 in
set_option maxHeartbeats 4000000 in
theorem c_X7_isWithin {l : Launch} {g : Gx} (hg : ApG 123 g.ad) (σ : Mem) (n top : Int32) : Ct l (OC g) 0 mX7_isWithin [.int n, .int top] σ (some (.int (bI (inW n top)))) σ := by
  refine ct_of (lv := [some (.int n), some (.int top)]) (okC hg) (by decide +kernel) (Nat.le_of_ble_eq_true rfl) (fun ls h => lvh_entry h rfl 0) ?_
  intro κ hl hnL cx hR
  subst hl
  have cx : Cx κ (OC g) RX7 cX7_isWithin 0 := cx
  have hnL : κ.nL = 2 := hnL
  refine z_iload_n cx 0 dX7_isWithin_0 rfl rfl ?_
  refine z_if_lt (tgt := 13) cx dX7_isWithin_1 (by decide) (fun c_1 => ?_) (fun c_1 => ?_)
  · refine z_iconst cx dX7_isWithin_13 ic_0 ?_
    exact z_zret cx hR rfl ⟨by simp [inW, bI, c_1], rfl⟩ dX7_isWithin_14
  · refine z_iload_n cx 0 dX7_isWithin_4 rfl rfl ?_
    refine z_iload_n cx 1 dX7_isWithin_5 rfl rfl ?_
    refine z_icmp_gt (tgt := 13) cx dX7_isWithin_6 (by decide) (fun c_6 => ?_) (fun c_6 => ?_)
    · refine z_iconst cx dX7_isWithin_13 ic_0 ?_
      exact z_zret cx hR rfl ⟨by simp [inW, bI, c_1, c_6], rfl⟩ dX7_isWithin_14
    · refine z_iconst cx dX7_isWithin_9 ic_1 ?_
      refine z_goto (tgt := 14) cx dX7_isWithin_10 (by decide) ?_
      exact z_zret cx hR rfl ⟨by simp [inW, bI, c_1, c_6], rfl⟩ dX7_isWithin_14
set_option maxRecDepth 100000 in
set_option maxHeartbeats 4000000 in
theorem c_X0_ownerBy {l : Launch} {g : Gx} (hg : ApG 123 g.ad) (σ : Mem) {q : Nat} (hq : q < 123) (hE : ∀ f, cE g q f = .inl (g.cI, 5, .inl f)) {n : Nat} (hn : n ≤ 5) (hb : σ 6 4 = nI n) : Ct l (OC g) 0 mX0_ownerBy [.ref (g.ad 115), .ref (g.ad q)] σ (some (.int (ow (σ 6 1) (σ q) n))) σ := by
  refine ct_of (lv := [some (.ref (g.ad 115)), some (.ref (g.ad q)), none, none]) (okC hg) (by decide +kernel) (Nat.le_of_ble_eq_true rfl) (fun ls h => lvh_entry h rfl 2) ?_
  intro κ hl hnL cx hR
  subst hl
  have cx : Cx κ (OC g) RX0 cX0_ownerBy 0 := cx
  have hnL : κ.nL = 4 := hnL
  have loop : ∀ (k i : Nat), n + 1 ≤ i + k → i ≤ n → Z κ (OC g) σ 4 [some (.ref (g.ad 115)), some (.ref (g.ad q)), some (.int (ow (σ 6 1) (σ q) i)), some (.int (nI i))] [] := by
    intro k
    induction k with
    | zero => intro i h1 h2; exact absurd h1 (by omega)
    | succ k ih =>
      intro i h1 h2
      refine z_iload_n cx 3 dX0_ownerBy_4 rfl rfl ?_
      refine z_aload_n cx 0 dX0_ownerBy_5 rfl rfl ?_
      refine gX0_15 cx dX0_ownerBy_6 ?_
      refine gX0_23 cx dX0_ownerBy_9 ?_
      refine z_icmp_ge (tgt := 50) cx dX0_ownerBy_12 (by decide) (fun c_12 => ?_) (fun c_12 => ?_)
      · rw [hb, nI_leI (by omega) (by omega)] at c_12
        have e9 : i = n := by omega
        subst e9
        refine z_iload_n cx 2 dX0_ownerBy_50 rfl rfl ?_
        exact z_iret cx hR ⟨rfl, rfl⟩ dX0_ownerBy_51
      · rw [hb, nI_leI (by omega) (by omega)] at c_12
        refine z_aload_n cx 1 dX0_ownerBy_15 rfl rfl ?_
        refine z_iload_n cx 3 dX0_ownerBy_16 rfl rfl ?_
        refine g_ialdN cx i hq hE rfl (by omega) (by decide) dX0_ownerBy_17 ?_
        refine z_aload_n cx 0 dX0_ownerBy_18 rfl rfl ?_
        refine gX0_15 cx dX0_ownerBy_19 ?_
        refine gX0_29 cx dX0_ownerBy_22 ?_
        refine z_icmp_lt (tgt := 44) cx dX0_ownerBy_25 (by decide) (fun c_25 => ?_) (fun c_25 => ?_)
        · refine z_iinc cx dX0_ownerBy_44 rfl ic_1 (nI_1 i) hnL (by decide) rfl ?_
          refine z_goto (tgt := 4) cx dX0_ownerBy_47 (by decide) ?_
          exact z_eq rfl (by simp [ow, c_25]) rfl (ih (i + 1) (by omega) (by omega))
        · refine z_iload_n cx 2 dX0_ownerBy_28 rfl rfl ?_
          refine z_iconst cx dX0_ownerBy_29 ic_m1 ?_
          refine z_icmp_eq (tgt := 42) cx dX0_ownerBy_30 (by decide) (fun c_30 => ?_) (fun c_30 => ?_)
          · refine z_iload_n cx 3 dX0_ownerBy_42 rfl rfl ?_
            refine z_istore_n cx 2 dX0_ownerBy_43 rfl hnL (by decide) rfl ?_
            refine z_iinc cx dX0_ownerBy_44 rfl ic_1 (nI_1 i) hnL (by decide) rfl ?_
            refine z_goto (tgt := 4) cx dX0_ownerBy_47 (by decide) ?_
            exact z_eq rfl (by simp [ow, c_25, c_30]) rfl (ih (i + 1) (by omega) (by omega))
          · obtain ⟨j9, hj9, ej9⟩ := (ow_rng (σ 6 1) (σ q) i).resolve_left c_30
            refine z_aload_n cx 1 dX0_ownerBy_33 rfl rfl ?_
            refine z_iload_n cx 3 dX0_ownerBy_34 rfl rfl ?_
            refine g_ialdN cx i hq hE rfl (by omega) (by decide) dX0_ownerBy_35 ?_
            refine z_aload_n cx 1 dX0_ownerBy_36 rfl rfl ?_
            refine z_iload_n cx 2 dX0_ownerBy_37 rfl rfl ?_
            refine g_ialdN cx j9 hq hE ej9 (by omega) (by decide) dX0_ownerBy_38 ?_
            refine z_icmp_le (tgt := 44) cx dX0_ownerBy_39 (by decide) (fun c_39 => ?_) (fun c_39 => ?_)
            · refine z_iinc cx dX0_ownerBy_44 rfl ic_1 (nI_1 i) hnL (by decide) rfl ?_
              refine z_goto (tgt := 4) cx dX0_ownerBy_47 (by decide) ?_
              exact z_eq rfl (by simp [ow, c_25, c_39, ej9, nI_clamp (show j9 < 2 ^ 31 by omega)]) rfl (ih (i + 1) (by omega) (by omega))
            · refine z_iload_n cx 3 dX0_ownerBy_42 rfl rfl ?_
              refine z_istore_n cx 2 dX0_ownerBy_43 rfl hnL (by decide) rfl ?_
              refine z_iinc cx dX0_ownerBy_44 rfl ic_1 (nI_1 i) hnL (by decide) rfl ?_
              refine z_goto (tgt := 4) cx dX0_ownerBy_47 (by decide) ?_
              exact z_eq rfl (by simp [ow, c_25, c_39, ej9, nI_clamp (show j9 < 2 ^ 31 by omega)]) rfl (ih (i + 1) (by omega) (by omega))
  refine z_iconst cx dX0_ownerBy_0 ic_m1 ?_
  refine z_istore_n cx 2 dX0_ownerBy_1 rfl hnL (by decide) rfl ?_
  refine z_iconst cx dX0_ownerBy_2 ic_0 ?_
  refine z_istore_n cx 3 dX0_ownerBy_3 rfl hnL (by decide) rfl ?_
  exact loop (n + 1) 0 (by omega) (by omega)
