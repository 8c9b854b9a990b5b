def rvE (j : Nat) : Int32 := if j = 2 then 0 else if j = 3 then -1 else if j = 4 then 0 else if j = 5 then -1 else 5
def resE (i : Nat) (h : Nat → Int32) : Nat → Int32 := fun k => if 7 ≤ k ∧ k < 7 + 9 * i ∧ 2 ≤ (k - 7) % 9 then rvE ((k - 7) % 9) else h k
def resB (i : Nat) (h : Nat → Int32) : Nat → Int32 := fun k => if 70 ≤ k ∧ k < 70 + 6 * i ∧ 3 ≤ (k - 70) % 6 then (if (k - 70) % 6 = 3 then 10 * h (k - 1) else if (k - 70) % 6 = 4 then 0 else -1) else h k
theorem resE_0 (h : Nat → Int32) : resE 0 h = h := by funext k; simp only [resE]; rw [if_neg (by omega)]
theorem resB_0 (h : Nat → Int32) : resB 0 h = h := by funext k; simp only [resB]; rw [if_neg (by omega)]
theorem resE_in {i k : Nat} (h : Nat → Int32) {e j : Nat} (he : e < i) (h2 : 2 ≤ j) (h9 : j < 9) (hk : k = 7 + 9 * e + j) : resE i h k = rvE j := by
  have e1 : (k - 7) % 9 = j := by omega
  simp only [resE, e1]; rw [if_pos (by omega)]
theorem resE_out {i k : Nat} (h : Nat → Int32) (hk : ¬ (7 ≤ k ∧ k < 7 + 9 * i ∧ 2 ≤ (k - 7) % 9)) : resE i h k = h k := by
  simp only [resE]; rw [if_neg hk]
theorem resB_in {i k : Nat} (h : Nat → Int32) {b j : Nat} (he : b < i) (h2 : 3 ≤ j) (h9 : j < 6) (hk : k = 70 + 6 * b + j) : resB i h k = (if j = 3 then 10 * h (k - 1) else if j = 4 then 0 else -1) := by
  have e1 : (k - 70) % 6 = j := by omega
  simp only [resB, e1]; rw [if_pos (by omega)]
theorem resB_out {i k : Nat} (h : Nat → Int32) (hk : ¬ (70 ≤ k ∧ k < 70 + 6 * i ∧ 3 ≤ (k - 70) % 6)) : resB i h k = h k := by
  simp only [resB]; rw [if_neg hk]
theorem resE_s (i : Nat) (h : Nat → Int32) : upd (upd (upd (upd (upd (upd (upd (resE i h) (7 + 9 * i + 2) 0) (7 + 9 * i + 3) (-1)) (7 + 9 * i + 4) 0) (7 + 9 * i + 5) (-1)) (7 + 9 * i + 6) 5) (7 + 9 * i + 7) 5) (7 + 9 * i + 8) 5 = resE (i + 1) h := by
  funext k
  by_cases q : 7 + 9 * i + 2 ≤ k ∧ k ≤ 7 + 9 * i + 8
  · obtain ⟨j, rfl⟩ : ∃ j, k = 7 + 9 * i + j := ⟨k - (7 + 9 * i), by omega⟩
    rw [resE_in h (e := i) (j := j) (by omega) (by omega) (by omega) rfl]
    rcases (show j = 2 ∨ j = 3 ∨ j = 4 ∨ j = 5 ∨ j = 6 ∨ j = 7 ∨ j = 8 by omega) with rfl | rfl | rfl | rfl | rfl | rfl | rfl <;> simp [upd, rvE]
  · rw [upd_ne _ _ (by omega), upd_ne _ _ (by omega), upd_ne _ _ (by omega), upd_ne _ _ (by omega), upd_ne _ _ (by omega), upd_ne _ _ (by omega), upd_ne _ _ (by omega)]
    simp only [resE]
    by_cases q2 : 7 ≤ k ∧ k < 7 + 9 * i ∧ 2 ≤ (k - 7) % 9
    · rw [if_pos q2, if_pos (by omega)]
    · rw [if_neg q2, if_neg (by omega)]
theorem resB_s (i : Nat) (h : Nat → Int32) : upd (upd (upd (resB i h) (70 + 6 * i + 3) (10 * h (70 + 6 * i + 2))) (70 + 6 * i + 4) 0) (70 + 6 * i + 5) (-1) = resB (i + 1) h := by
  funext k
  by_cases q : 70 + 6 * i + 3 ≤ k ∧ k ≤ 70 + 6 * i + 5
  · obtain ⟨j, rfl⟩ : ∃ j, k = 70 + 6 * i + j := ⟨k - (70 + 6 * i), by omega⟩
    rw [resB_in h (b := i) (j := j) (by omega) (by omega) (by omega) rfl]
    rcases (show j = 3 ∨ j = 4 ∨ j = 5 by omega) with rfl | rfl | rfl <;> simp [upd]
  · rw [upd_ne _ _ (by omega), upd_ne _ _ (by omega), upd_ne _ _ (by omega)]
    simp only [resB]
    by_cases q2 : 70 ≤ k ∧ k < 70 + 6 * i ∧ 3 ≤ (k - 70) % 6
    · rw [if_pos q2, if_pos (show 70 ≤ k ∧ k < 70 + 6 * (i + 1) ∧ 3 ≤ (k - 70) % 6 by omega)]
    · rw [if_neg q2, if_neg (by omega)]
theorem WmQ_of {σ' σ : Mem} {l : List (Nat × Int32 × Int32)} {E B : Nat} {h : Nat → Int32} (h1 : σ' 1 = resB 5 (resE 7 (upd (upd h 2 0) 6 0))) (h2 : ∀ k, k < 100 → h k = dOutL (va_cpy (σ 1) (σ 2) 0 0 100) l E B k)
    (h3 : σ' 0 7 = 0 ∧ σ' 0 9 = 0 ∧ σ' 0 3 = 0) (h4 : σ' 5 0 = 0 ∧ σ' 5 1 = 0) (h5 : σ' 6 = σ 6) : WmQ σ' σ l E B := by
  unfold WmQ
  rw [h1]
  refine ⟨fun k hk => ?_, ⟨?_, ?_⟩, fun e he => ⟨?_, ?_, ?_, ?_, fun t ht => ?_⟩, fun b hb => ⟨?_, ?_, ?_⟩, h3, h4, h5⟩
  · by_cases q2 : k = 2
    · exact Or.inl (Or.inl q2)
    · by_cases q6 : k = 6
      · exact Or.inl (Or.inr (Or.inl q6))
      · by_cases qe : 7 ≤ k ∧ k < 7 + 9 * 7 ∧ 2 ≤ (k - 7) % 9
        · exact Or.inl (Or.inr (Or.inr (Or.inl ⟨(k - 7) / 9, (k - 7) % 9, by omega, by omega, by omega, by omega⟩)))
        · by_cases qb : 70 ≤ k ∧ k < 70 + 6 * 5 ∧ 3 ≤ (k - 70) % 6
          · exact Or.inl (Or.inr (Or.inr (Or.inr ⟨(k - 70) / 6, (k - 70) % 6, by omega, by omega, by omega, by omega⟩)))
          · exact Or.inr (by rw [resB_out _ qb, resE_out _ qe, upd_ne _ _ q6, upd_ne _ _ q2]; exact h2 k hk)
  · rw [resB_out _ (by omega), resE_out _ (by omega)]; rfl
  · rw [resB_out _ (by omega), resE_out _ (by omega)]; rfl
  · rw [resB_out _ (by omega), resE_in _ (e := e) (j := 2) he (by omega) (by omega) rfl]; rfl
  · rw [resB_out _ (by omega), resE_in _ (e := e) (j := 3) he (by omega) (by omega) rfl]; rfl
  · rw [resB_out _ (by omega), resE_in _ (e := e) (j := 4) he (by omega) (by omega) rfl]; rfl
  · rw [resB_out _ (by omega), resE_in _ (e := e) (j := 5) he (by omega) (by omega) rfl]; rfl
  · rw [resB_out _ (by omega), resE_in _ (e := e) (j := 6 + t) he (by omega) (by omega) (by omega)]
    simp only [rvE]; rw [if_neg (by omega), if_neg (by omega), if_neg (by omega), if_neg (by omega)]
  · rw [resB_in _ (b := b) (j := 3) hb (by omega) (by omega) rfl, resB_out (k := 70 + 6 * b + 2) _ (by omega)]; rfl
  · rw [resB_in _ (b := b) (j := 4) hb (by omega) (by omega) rfl]; rfl
  · rw [resB_in _ (b := b) (j := 5) hb (by omega) (by omega) rfl]; rfl
set_option maxRecDepth 100000 in
set_option maxHeartbeats 4000000 in
theorem c_X8_west {l : Launch} {g : Gx} (hg : ApG 9 g.ad) (σ : Mem) {L E B : Nat} (hT : TxH σ L) (hE : E ≤ 7) (hB : B ≤ 5) (eE : σ 1 0 = nI E) (eB : σ 1 1 = nI B) : CtI l (OM g) 5 mX8_west [.ref (g.ad 0)] σ (fun v σ' => (¬ (ffT (σ 6) L 14 0 E B).1 = -1 → v = -4 ∧ (∀ k, k < 11 ∨ 16 < k → σ' 0 k = σ 0 k) ∧ ∀ q, q ≠ 0 → q ≠ 2 → σ' q = σ q) ∧ ((ffT (σ 6) L 14 0 E B).1 = -1 → v = nI (ffT (σ 6) L 14 0 E B).2.length ∧ WmQ σ' σ (ffT (σ 6) L 14 0 E B).2 E B)) := by
  refine ct_of (lv := [some (.ref (g.ad 0)), none, none, none]) (okM hg) (by decide +kernel) (Nat.le_of_ble_eq_true rfl) (fun ls h => lvh_entry h rfl 3) ?_
  intro κ hl hnL cx hR
  subst hl
  have cx : Cx κ (OM g) RX8 cX8_west 5 := cx
  have hnL : κ.nL = 4 := hnL
  generalize hr9 : (ffT (σ 6) L 14 0 E B) = r9 at hR
  have fin : ∀ (τ : Mem) (h : Nat → Int32) (x y z : Option Value), r9.1 = -1 → τ 1 = resB 5 (resE 7 (upd (upd h 2 0) 6 0)) → (∀ k, k < 100 → h k = dOutL (va_cpy (σ 1) (σ 2) 0 0 100) r9.2 E B k) → τ 0 7 = 0 → τ 0 16 = nI r9.2.length → τ 6 = σ 6 → Z κ (OM g) τ 179 [some (.ref (g.ad 0)), x, y, z] [] := by
    intro τ h x y z hm h1 h2 t7 t16 t6
    refine z_aload_n cx 0 dX8_west_179 rfl rfl ?_
    refine z_iconst cx dX8_west_180 ic_0 ?_
    refine pX8_122 cx dX8_west_181 ?_
    refine z_aload_n cx 0 dX8_west_184 rfl rfl ?_
    refine z_iconst cx dX8_west_185 ic_0 ?_
    refine pX8_125 cx dX8_west_186 ?_
    refine z_aload_n cx 0 dX8_west_189 rfl rfl ?_
    refine gX8_22 cx dX8_west_190 ?_
    refine z_iconst cx dX8_west_193 ic_0 ?_
    refine z_iconst cx dX8_west_194 ic_0 ?_
    refine g_zast cx (by decide) (fun _ => rfl) (vp_in_nI (n := 0) (by decide) (by decide)) dX8_west_195 ?_
    refine z_aload_n cx 0 dX8_west_196 rfl rfl ?_
    refine gX8_22 cx dX8_west_197 ?_
    refine z_iconst cx dX8_west_200 ic_1 ?_
    refine z_iconst cx dX8_west_201 ic_0 ?_
    refine g_zast cx (by decide) (fun _ => rfl) (vp_in_nI (n := 1) (by decide) (by decide)) dX8_west_202 ?_
    refine z_aload_n cx 0 dX8_west_203 rfl rfl ?_
    refine gX8_112 cx dX8_west_204 ?_
    refine z_iret cx hR ⟨_, rfl, fun zz => absurd hm zz, fun _ => ⟨t16, WmQ_of (h := h) h1 h2 ⟨t7, rfl, rfl⟩ ⟨rfl, rfl⟩ t6⟩⟩ dX8_west_207
  have loopB : ∀ (c i : Nat) (ρ : Mem) (h h9 : Nat → Int32) (y z : Option Value), 5 + 1 ≤ i + c → i ≤ 5 → r9.1 = -1 → h = resE 7 (upd (upd h9 2 0) 6 0) → (∀ k, k < 100 → h9 k = dOutL (va_cpy (σ 1) (σ 2) 0 0 100) r9.2 E B k) → ρ 0 7 = 0 → ρ 0 16 = nI r9.2.length → ρ 6 = σ 6 → Z κ (OM g) (upA ρ 1 (resB i h)) 126 [some (.ref (g.ad 0)), some (.int (nI i)), y, z] [] := by
    intro c
    induction c with
    | zero => intro i ρ h h9 y z h1 h2; exact absurd h1 (by omega)
    | succ c ih =>
      intro i ρ h h9 y z h1 h2 hm hh h3 t7 t16 t6
      refine z_iload_n cx 1 dX8_west_126 rfl rfl ?_
      refine z_iconst cx dX8_west_127 ic_5 ?_
      refine z_icmp_ge (tgt := 179) cx dX8_west_128 (by decide) (fun c_128 => ?_) (fun c_128 => ?_)
      · have c5 := (nI_leI (a := 5) (by decide) (by omega)).mp c_128
        have e9 : i = 5 := by omega
        subst e9
        exact fin _ h9 _ _ _ hm (by rw [upA_at, hh]) h3 t7 t16 t6
      · have c5 : ¬ 5 ≤ i := fun z => c_128 ((nI_leI (a := 5) (by decide) (by omega)).mpr z)
        refine z_iload_n cx 1 dX8_west_131 rfl rfl ?_
        refine z_S1i cx sX8_bidderAt kX8_105 (c_X8_bidderAt hg _ i) (by decide) (Nat.le_of_ble_eq_true rfl) dX8_west_132 ?_
        refine z_istore_n cx 2 dX8_west_135 rfl hnL (by decide) rfl ?_
        refine z_aload_n cx 0 dX8_west_136 rfl rfl ?_
        refine gX8_7 cx dX8_west_137 ?_
        refine z_iload_n cx 2 dX8_west_140 rfl rfl ?_
        refine z_iconst cx dX8_west_141 ic_3 ?_
        refine z_iadd cx dX8_west_142 ?_
        refine z_bipush cx dX8_west_143 bi_10 ?_
        refine z_aload_n cx 0 dX8_west_145 rfl rfl ?_
        refine gX8_7 cx dX8_west_146 ?_
        refine z_iload_n cx 2 dX8_west_149 rfl rfl ?_
        refine z_iconst cx dX8_west_150 ic_2 ?_
        refine z_iadd cx dX8_west_151 ?_
        refine g_ialdN cx (70 + 6 * i + 2) (by decide) (fun _ => rfl) (nI_add _ 2) (by omega) (by decide) dX8_west_152 ?_
        refine z_imul cx dX8_west_153 ?_
        refine g_iastN cx (70 + 6 * i + 3) (by decide) (fun _ => rfl) (nI_add _ 3) (by omega) (by decide) dX8_west_154 ?_
        refine z_aload_n cx 0 dX8_west_155 rfl rfl ?_
        refine gX8_7 cx dX8_west_156 ?_
        refine z_iload_n cx 2 dX8_west_159 rfl rfl ?_
        refine z_iconst cx dX8_west_160 ic_4 ?_
        refine z_iadd cx dX8_west_161 ?_
        refine z_iconst cx dX8_west_162 ic_0 ?_
        refine g_iastN cx (70 + 6 * i + 4) (by decide) (fun _ => rfl) (nI_add _ 4) (by omega) (by decide) dX8_west_163 ?_
        refine z_aload_n cx 0 dX8_west_164 rfl rfl ?_
        refine gX8_7 cx dX8_west_165 ?_
        refine z_iload_n cx 2 dX8_west_168 rfl rfl ?_
        refine z_iconst cx dX8_west_169 ic_5 ?_
        refine z_iadd cx dX8_west_170 ?_
        refine z_iconst cx dX8_west_171 ic_m1 ?_
        refine g_iastN cx (70 + 6 * i + 5) (by decide) (fun _ => rfl) (nI_add _ 5) (by omega) (by decide) dX8_west_172 ?_
        refine z_iinc cx dX8_west_173 rfl ic_1 (nI_1 i) hnL (by decide) rfl ?_
        refine z_goto (tgt := 126) cx dX8_west_176 (by decide) ?_
        exact z_eq (by rw [upA_at, resB_out (k := 70 + 6 * i + 2) _ (by omega), up2_upA, up2_upA, up2_upA, resB_s]) rfl rfl (ih (i + 1) ρ h h9 _ _ (by omega) (by omega) hm hh h3 t7 t16 t6)
  have loopE : ∀ (c i : Nat) (ρ : Mem) (h9 : Nat → Int32) (y z : Option Value), 7 + 1 ≤ i + c → i ≤ 7 → r9.1 = -1 → (∀ k, k < 100 → h9 k = dOutL (va_cpy (σ 1) (σ 2) 0 0 100) r9.2 E B k) → ρ 0 7 = 0 → ρ 0 16 = nI r9.2.length → ρ 6 = σ 6 → Z κ (OM g) (upA ρ 1 (resE i (upd (upd h9 2 0) 6 0))) 46 [some (.ref (g.ad 0)), some (.int (nI i)), y, z] [] := by
    intro c
    induction c with
    | zero => intro i ρ h9 y z h1 h2; exact absurd h1 (by omega)
    | succ c ih =>
      intro i ρ h9 y z h1 h2 hm h3 t7 t16 t6
      refine z_iload_n cx 1 dX8_west_46 rfl rfl ?_
      refine z_bipush cx dX8_west_47 bi_7 ?_
      refine z_icmp_ge (tgt := 124) cx dX8_west_49 (by decide) (fun c_49 => ?_) (fun c_49 => ?_)
      · have c7 := (nI_leI (a := 7) (by decide) (by omega)).mp c_49
        have e9 : i = 7 := by omega
        subst e9
        refine z_iconst cx dX8_west_124 ic_0 ?_
        refine z_istore_n cx 1 dX8_west_125 rfl hnL (by decide) rfl ?_
        exact z_eq (by rw [resB_0]) rfl rfl (loopB 6 0 ρ _ h9 _ _ (by omega) (by omega) hm rfl h3 t7 t16 t6)
      · have c7 : ¬ 7 ≤ i := fun z => c_49 ((nI_leI (a := 7) (by decide) (by omega)).mpr z)
        refine z_iload_n cx 1 dX8_west_52 rfl rfl ?_
        refine z_S1i cx sX8_eveningAt kX8_98 (c_X8_eveningAt hg _ i) (by decide) (Nat.le_of_ble_eq_true rfl) dX8_west_53 ?_
        refine z_istore_n cx 2 dX8_west_56 rfl hnL (by decide) rfl ?_
        refine z_aload_n cx 0 dX8_west_57 rfl rfl ?_
        refine gX8_7 cx dX8_west_58 ?_
        refine z_iload_n cx 2 dX8_west_61 rfl rfl ?_
        refine z_iconst cx dX8_west_62 ic_2 ?_
        refine z_iadd cx dX8_west_63 ?_
        refine z_iconst cx dX8_west_64 ic_0 ?_
        refine g_iastN cx (7 + 9 * i + 2) (by decide) (fun _ => rfl) (nI_add _ 2) (by omega) (by decide) dX8_west_65 ?_
        refine z_aload_n cx 0 dX8_west_66 rfl rfl ?_
        refine gX8_7 cx dX8_west_67 ?_
        refine z_iload_n cx 2 dX8_west_70 rfl rfl ?_
        refine z_iconst cx dX8_west_71 ic_3 ?_
        refine z_iadd cx dX8_west_72 ?_
        refine z_iconst cx dX8_west_73 ic_m1 ?_
        refine g_iastN cx (7 + 9 * i + 3) (by decide) (fun _ => rfl) (nI_add _ 3) (by omega) (by decide) dX8_west_74 ?_
        refine z_aload_n cx 0 dX8_west_75 rfl rfl ?_
        refine gX8_7 cx dX8_west_76 ?_
        refine z_iload_n cx 2 dX8_west_79 rfl rfl ?_
        refine z_iconst cx dX8_west_80 ic_4 ?_
        refine z_iadd cx dX8_west_81 ?_
        refine z_iconst cx dX8_west_82 ic_0 ?_
        refine g_iastN cx (7 + 9 * i + 4) (by decide) (fun _ => rfl) (nI_add _ 4) (by omega) (by decide) dX8_west_83 ?_
        refine z_aload_n cx 0 dX8_west_84 rfl rfl ?_
        refine gX8_7 cx dX8_west_85 ?_
        refine z_iload_n cx 2 dX8_west_88 rfl rfl ?_
        refine z_iconst cx dX8_west_89 ic_5 ?_
        refine z_iadd cx dX8_west_90 ?_
        refine z_iconst cx dX8_west_91 ic_m1 ?_
        refine g_iastN cx (7 + 9 * i + 5) (by decide) (fun _ => rfl) (nI_add _ 5) (by omega) (by decide) dX8_west_92 ?_
        refine z_iconst cx dX8_west_93 ic_0 ?_
        refine z_istore_n cx 3 dX8_west_94 rfl hnL (by decide) rfl ?_
        refine z_iload_n cx 3 dX8_west_95 rfl rfl ?_
        refine z_iconst cx dX8_west_96 ic_3 ?_
        refine z_icmp_ge (tgt := 118) cx dX8_west_97 (by decide) (fun c_97 => ?_) (fun c_97 => ?_)
        · exact absurd c_97 (by decide)
        · refine z_aload_n cx 0 dX8_west_100 rfl rfl ?_
          refine gX8_7 cx dX8_west_101 ?_
          refine z_iload_n cx 2 dX8_west_104 rfl rfl ?_
          refine z_bipush cx dX8_west_105 bi_6 ?_
          refine z_iadd cx dX8_west_107 ?_
          refine z_iload_n cx 3 dX8_west_108 rfl rfl ?_
          refine z_iadd cx dX8_west_109 ?_
          refine z_iconst cx dX8_west_110 ic_5 ?_
          refine g_iastN cx (7 + 9 * i + 6) (by decide) (fun _ => rfl) (show nI (7 + 9 * i) + 6 + 0 = nI (7 + 9 * i + 6) by rw [show (6 : Int32) = nI 6 from rfl, show (0 : Int32) = nI 0 from rfl, nI_add, nI_add]) (by omega) (by decide) dX8_west_111 ?_
          refine z_iinc cx dX8_west_112 rfl ic_1 (show (0 : Int32) + 1 = 1 by decide) hnL (by decide) rfl ?_
          refine z_goto (tgt := 95) cx dX8_west_115 (by decide) ?_
          refine z_iload_n cx 3 dX8_west_95 rfl rfl ?_
          refine z_iconst cx dX8_west_96 ic_3 ?_
          refine z_icmp_ge (tgt := 118) cx dX8_west_97 (by decide) (fun c_97 => ?_) (fun c_97 => ?_)
          · exact absurd c_97 (by decide)
          · refine z_aload_n cx 0 dX8_west_100 rfl rfl ?_
            refine gX8_7 cx dX8_west_101 ?_
            refine z_iload_n cx 2 dX8_west_104 rfl rfl ?_
            refine z_bipush cx dX8_west_105 bi_6 ?_
            refine z_iadd cx dX8_west_107 ?_
            refine z_iload_n cx 3 dX8_west_108 rfl rfl ?_
            refine z_iadd cx dX8_west_109 ?_
            refine z_iconst cx dX8_west_110 ic_5 ?_
            refine g_iastN cx (7 + 9 * i + 7) (by decide) (fun _ => rfl) (show nI (7 + 9 * i) + 6 + 1 = nI (7 + 9 * i + 7) by rw [show (6 : Int32) = nI 6 from rfl, show (1 : Int32) = nI 1 from rfl, nI_add, nI_add]) (by omega) (by decide) dX8_west_111 ?_
            refine z_iinc cx dX8_west_112 rfl ic_1 (show (1 : Int32) + 1 = 2 by decide) hnL (by decide) rfl ?_
            refine z_goto (tgt := 95) cx dX8_west_115 (by decide) ?_
            refine z_iload_n cx 3 dX8_west_95 rfl rfl ?_
            refine z_iconst cx dX8_west_96 ic_3 ?_
            refine z_icmp_ge (tgt := 118) cx dX8_west_97 (by decide) (fun c_97 => ?_) (fun c_97 => ?_)
            · exact absurd c_97 (by decide)
            · refine z_aload_n cx 0 dX8_west_100 rfl rfl ?_
              refine gX8_7 cx dX8_west_101 ?_
              refine z_iload_n cx 2 dX8_west_104 rfl rfl ?_
              refine z_bipush cx dX8_west_105 bi_6 ?_
              refine z_iadd cx dX8_west_107 ?_
              refine z_iload_n cx 3 dX8_west_108 rfl rfl ?_
              refine z_iadd cx dX8_west_109 ?_
              refine z_iconst cx dX8_west_110 ic_5 ?_
              refine g_iastN cx (7 + 9 * i + 8) (by decide) (fun _ => rfl) (show nI (7 + 9 * i) + 6 + 2 = nI (7 + 9 * i + 8) by rw [show (6 : Int32) = nI 6 from rfl, show (2 : Int32) = nI 2 from rfl, nI_add, nI_add]) (by omega) (by decide) dX8_west_111 ?_
              refine z_iinc cx dX8_west_112 rfl ic_1 (show (2 : Int32) + 1 = 3 by decide) hnL (by decide) rfl ?_
              refine z_goto (tgt := 95) cx dX8_west_115 (by decide) ?_
              refine z_iload_n cx 3 dX8_west_95 rfl rfl ?_
              refine z_iconst cx dX8_west_96 ic_3 ?_
              refine z_icmp_ge (tgt := 118) cx dX8_west_97 (by decide) (fun c_97 => ?_) (fun c_97 => ?_)
              · refine z_iinc cx dX8_west_118 rfl ic_1 (nI_1 i) hnL (by decide) rfl ?_
                refine z_goto (tgt := 46) cx dX8_west_121 (by decide) ?_
                exact z_eq (by rw [up2_upA, up2_upA, up2_upA, up2_upA, up2_upA, up2_upA, up2_upA, resE_s]) rfl rfl (ih (i + 1) ρ h9 _ _ (by omega) (by omega) hm h3 t7 t16 t6)
              · exact absurd (by decide) c_97
  refine z_aload_n cx 0 dX8_west_0 rfl rfl ?_
  refine z_V0I cx vX8_faultAt kX8_119 (c_X8_faultAt hg σ hT hE hB eE eB) (by decide) hM0 rfl rfl (Nat.le_of_ble_eq_true rfl) dX8_west_1 (fun v_1 σ_1 h_1 => ?_)
  rw [hr9] at h_1
  obtain ⟨f1, f2, f3, f4⟩ := h_1
  subst f1
  refine z_iconst cx dX8_west_4 ic_m1 ?_
  refine z_icmp_eq (tgt := 11) cx dX8_west_5 (by decide) (fun c_5 => ?_) (fun c_5 => ?_)
  · refine z_aload_n cx 0 dX8_west_11 rfl rfl ?_
    refine z_iconst cx dX8_west_12 ic_0 ?_
    refine pX8_39 cx dX8_west_13 ?_
    refine z_aload_n cx 0 dX8_west_16 rfl rfl ?_
    refine gX8_13 cx dX8_west_17 ?_
    refine z_iconst cx dX8_west_20 ic_0 ?_
    refine z_aload_n cx 0 dX8_west_21 rfl rfl ?_
    refine gX8_7 cx dX8_west_22 ?_
    refine z_iconst cx dX8_west_25 ic_0 ?_
    refine z_S4v cx sX8_copies kX8_108 (c_X8_copies (a := 0) (b := 0) hg _ (by decide) (by decide) (fun _ => rfl) (fun _ => rfl) (by decide) (by decide) (by decide) (by decide) (by decide)) (by decide) (Nat.le_of_ble_eq_true rfl) dX8_west_26 ?_
    refine z_aload_n cx 0 dX8_west_29 rfl rfl ?_
    refine gX8_7 cx dX8_west_30 ?_
    refine z_iconst cx dX8_west_33 ic_2 ?_
    refine z_iconst cx dX8_west_34 ic_0 ?_
    refine g_iastN cx 2 (by decide) (fun _ => rfl) rfl (by omega) (by decide) dX8_west_35 ?_
    refine z_aload_n cx 0 dX8_west_36 rfl rfl ?_
    refine gX8_7 cx dX8_west_37 ?_
    refine z_bipush cx dX8_west_40 bi_6 ?_
    refine z_iconst cx dX8_west_42 ic_0 ?_
    refine g_iastN cx 6 (by decide) (fun _ => rfl) rfl (by omega) (by decide) dX8_west_43 ?_
    refine z_iconst cx dX8_west_44 ic_0 ?_
    refine z_istore_n cx 1 dX8_west_45 rfl hnL (by decide) rfl ?_
    refine z_eq (by rw [up2_upA, up2_upA, resE_0]; rfl) rfl rfl (loopE 8 0 (up2 σ_1 0 7 0) (va_cpy (σ_1 2) (σ_1 1) 0 0 100) _ _ (by omega) (by omega) c_5 (fun k hk => ?_) rfl ((f2 c_5).1.trans (by rw [Nat.zero_add])) (f4 6 (by decide) (by decide)))
    rw [show va_cpy (σ_1 2) (σ_1 1) 0 0 100 k = σ_1 2 k by simp [va_cpy, hk], (f2 c_5).2]
  · refine z_bipush cx dX8_west_8 bi_m4 ?_
    exact z_iret cx hR ⟨_, rfl, fun _ => ⟨rfl, f3, f4⟩, fun zz => absurd zz c_5⟩ dX8_west_10
