set_option maxRecDepth 100000 in
set_option maxHeartbeats 4000000 in
theorem c_X8_sale {l : Launch} {g : Gx} (hg : ApG 9 g.ad) (σ : Mem) {E B t : Nat} (hM : MH σ E B t) (hr : RsH σ) {nu : Nat} (hn : nu ≤ 8) (eN : σ 0 3 = nI nu) (z : Int32) : CtI l (OM g) 3 mX8_sale [.ref (g.ad 0), .int z] σ (fun v σ' => (slN σ z = 0 → t < E ∧ ∃ σ1 : Mem, NoQ σ1 σ nu ∧ σ' 1 = saR σ1 B t z ∧ v = saP σ1 B ∧ ∀ q, q ≠ 1 → q ≠ 8 → σ' q = σ1 q) ∧ (¬ slN σ z = 0 → v = slN σ z ∧ σ' = σ)) := by
  refine ct_of (lv := [some (.ref (g.ad 0)), some (.int z), none, none, none, none, none]) (okM hg) (by decide +kernel) (Nat.le_of_ble_eq_true rfl) (fun ls h => lvh_entry h rfl 5) ?_
  intro κ hl hnL cx hR
  subst hl
  have cx : Cx κ (OM g) RX8 cX8_sale 3 := cx
  have hnL : κ.nL = 7 := hnL
  have hM0 := hM
  obtain ⟨⟨hE, eE⟩, ⟨hB, eB⟩, ht, eT⟩ := hM0
  have ok : slN σ z = 0 → t < E → ∀ (σ1 : Mem), NoQ σ1 σ nu → Z κ (OM g) σ1 28 [some (.ref (g.ad 0)), some (.int z), none, none, none, none, none] [] := by
    intro e9 htE σ1 hN
    have n1 : σ1 1 = σ 1 := hN.2.2.2.2 1 (by decide) (by decide)
    have hf := n1
    generalize hfe : σ1 1 = f at hf
    have f1 : f 1 = nI B := by rw [hf]; exact eB
    have f2 : f 2 = nI t := by rw [hf]; exact eT
    have f4 : (-1 : Int32) < f 4 := by rw [hf]; exact hr
    generalize hbr : saB σ1 t z = br
    generalize hwho : saW σ1 B = who
    have hrng : who = -1 ∨ ∃ j, j < 5 ∧ who = nI j := by rw [← hwho]; exact ow_rng _ _ 5
    have eb : brt z (nI t) (f (7 + 9 * t + 1)) = br := by rw [← hfe]; exact hbr
    have tail : ∀ (ρ : Mem) (R : Nat → Int32) (cost : Int32) (x y : Option Value), R 2 = nI t → upd (bdR 5 R) 2 (nI (t + 1)) = saR σ1 B t z → saP σ1 B = (if who = -1 then -1 else cost) → (∀ q, q ≠ 1 → q ≠ 8 → ρ q = σ1 q) → Z κ (OM g) (upA ρ 1 R) 187 [some (.ref (g.ad 0)), some (.int z), some (.int who), some (.int (nI (7 + 9 * t))), x, some (.int cost), y] [] := by
      intro ρ R cost x y r2 hR9 hc hq
      have loop : ∀ (k i : Nat), 5 + 1 ≤ i + k → i ≤ 5 → Z κ (OM g) (upA ρ 1 (bdR i R)) 190 [some (.ref (g.ad 0)), some (.int z), some (.int who), some (.int (nI (7 + 9 * t))), x, some (.int cost), some (.int (nI i))] [] := by
        intro k
        induction k with
        | zero => intro i h1 h2; exact absurd h1 (by omega)
        | succ k ih =>
          intro i h1 h2
          refine z_iload cx dX8_sale_190 rfl ?_
          refine z_iconst cx dX8_sale_192 ic_5 ?_
          refine z_icmp_ge (tgt := 215) cx dX8_sale_193 (by decide) (fun c_193 => ?_) (fun c_193 => ?_)
          · have c6 := (nI_leI (a := 5) (by omega) (by omega)).mp c_193
            have e5 : i = 5 := by omega
            subst e5
            refine z_aload_n cx 0 dX8_sale_215 rfl rfl ?_
            refine gX8_7 cx dX8_sale_216 ?_
            refine z_iconst cx dX8_sale_219 ic_2 ?_
            refine z_dup2 cx dX8_sale_220 rfl rfl ?_
            refine g_ialdN cx 2 (by decide) (fun _ => rfl) rfl (by omega) (by decide) dX8_sale_221 ?_
            rw [upA_at, bdR_out R (Or.inl (by decide)), r2]
            refine z_iconst cx dX8_sale_222 ic_1 ?_
            refine z_iadd cx dX8_sale_223 ?_
            rw [nI_1]
            refine g_iastN cx 2 (by decide) (fun _ => rfl) rfl (by omega) (by decide) dX8_sale_224 ?_
            rw [up2_upA]
            refine z_iload_n cx 2 dX8_sale_225 rfl rfl ?_
            refine z_iconst cx dX8_sale_226 ic_m1 ?_
            refine z_icmp_ne (tgt := 234) cx dX8_sale_227 (by decide) (fun c_227 => ?_) (fun c_227 => ?_)
            · refine z_iload cx dX8_sale_234 rfl ?_
              refine z_iret cx hR ⟨_, rfl, fun _ => ⟨htE, σ1, hN, ?_, ?_, fun q q1 q2 => ?_⟩, fun q9 => absurd e9 q9⟩ dX8_sale_236
              · rw [upA_at]; exact hR9
              · rw [hc, if_neg c_227]
              · rw [upA_ne _ _ q1]; exact hq q q1 q2
            · refine z_iconst cx dX8_sale_230 ic_m1 ?_
              refine z_goto (tgt := 236) cx dX8_sale_231 (by decide) ?_
              refine z_iret cx hR ⟨_, rfl, fun _ => ⟨htE, σ1, hN, ?_, ?_, fun q q1 q2 => ?_⟩, fun q9 => absurd e9 q9⟩ dX8_sale_236
              · rw [upA_at]; exact hR9
              · rw [hc, if_pos c_227]
              · rw [upA_ne _ _ q1]; exact hq q q1 q2
          · have c6 : ¬ 5 ≤ i := fun q => c_193 ((nI_leI (a := 5) (by omega) (by omega)).mpr q)
            refine z_aload_n cx 0 dX8_sale_196 rfl rfl ?_
            refine gX8_7 cx dX8_sale_197 ?_
            refine z_iload cx dX8_sale_200 rfl ?_
            refine z_S1i cx sX8_bidderAt kX8_105 (c_X8_bidderAt hg _ i) (by decide) (Nat.le_of_ble_eq_true rfl) dX8_sale_202 ?_
            refine z_iconst cx dX8_sale_205 ic_5 ?_
            refine z_iadd cx dX8_sale_206 ?_
            refine z_iconst cx dX8_sale_207 ic_m1 ?_
            refine g_iastN cx (70 + 6 * i + 5) (by decide) (fun _ => rfl) (nI_add _ 5) (by omega) (by decide) dX8_sale_208 ?_
            refine z_iinc cx dX8_sale_209 rfl ic_1 (nI_1 i) hnL (by decide) rfl ?_
            refine z_goto (tgt := 190) cx dX8_sale_212 (by decide) ?_
            exact z_eq (by rw [up2_upA, bdR_s]) rfl rfl (ih (i + 1) (by omega) (by omega))
      refine z_iconst cx dX8_sale_187 ic_0 ?_
      refine z_istore cx dX8_sale_188 hnL (by decide) rfl ?_
      exact z_eq (by rw [bdR_0]) rfl rfl (loop 6 0 (by omega) (by omega))
    have mid2 : ∀ (ρ : Mem) (j : Nat) (cost : Int32) (y : Option Value), who = nI j → j < 5 → cost = saP σ1 B → (∀ q, q ≠ 1 → q ≠ 8 → ρ q = σ1 q) → Z κ (OM g) (upA ρ 1 (sR0 f t br (nI j))) 126 [some (.ref (g.ad 0)), some (.int z), some (.int (nI j)), some (.int (nI (7 + 9 * t))), some (.int (bI br)), some (.int cost), y] [.int (lft br (f (7 + 9 * t)) (f 5) cost)] := by
      intro ρ j cost y hw hj hc hq
      generalize hl9 : lft br (f (7 + 9 * t)) (f 5) cost = left
      refine z_istore cx dX8_sale_126 hnL (by decide) rfl ?_
      refine z_aload_n cx 0 dX8_sale_128 rfl rfl ?_
      refine gX8_7 cx dX8_sale_129 ?_
      refine z_iload_n cx 3 dX8_sale_132 rfl rfl ?_
      refine z_iconst cx dX8_sale_133 ic_4 ?_
      refine z_iadd cx dX8_sale_134 ?_
      refine z_iload cx dX8_sale_135 rfl ?_
      refine g_iastN cx (7 + 9 * t + 4) (by decide) (fun _ => rfl) (nI_add _ 4) (by omega) (by decide) dX8_sale_137 ?_
      rw [up2_upA]
      refine z_aload_n cx 0 dX8_sale_138 rfl rfl ?_
      refine gX8_7 cx dX8_sale_139 ?_
      refine z_iload_n cx 2 dX8_sale_142 rfl rfl ?_
      refine z_S1i cx sX8_bidderAt kX8_105 (c_X8_bidderAt hg _ j) (by decide) (Nat.le_of_ble_eq_true rfl) dX8_sale_143 ?_
      refine z_iconst cx dX8_sale_146 ic_3 ?_
      refine z_iadd cx dX8_sale_147 ?_
      refine z_dup2 cx dX8_sale_148 rfl rfl ?_
      refine g_ialdN cx (70 + 6 * j + 3) (by decide) (fun _ => rfl) (nI_add _ 3) (by omega) (by decide) dX8_sale_149 ?_
      rw [upA_at, sR0, upd_ne _ _ (by omega), upd_ne _ _ (by omega), upd_ne _ _ (by omega), ← sR0]
      refine z_iload cx dX8_sale_150 rfl ?_
      refine z_isub cx dX8_sale_152 ?_
      refine g_iastN cx (70 + 6 * j + 3) (by decide) (fun _ => rfl) (nI_add _ 3) (by omega) (by decide) dX8_sale_153 ?_
      rw [up2_upA]
      refine z_aload_n cx 0 dX8_sale_154 rfl rfl ?_
      refine gX8_7 cx dX8_sale_155 ?_
      refine z_iload_n cx 2 dX8_sale_158 rfl rfl ?_
      refine z_S1i cx sX8_bidderAt kX8_105 (c_X8_bidderAt hg _ j) (by decide) (Nat.le_of_ble_eq_true rfl) dX8_sale_159 ?_
      refine z_iconst cx dX8_sale_162 ic_4 ?_
      refine z_iadd cx dX8_sale_163 ?_
      refine z_dup2 cx dX8_sale_164 rfl rfl ?_
      refine g_ialdN cx (70 + 6 * j + 4) (by decide) (fun _ => rfl) (nI_add _ 4) (by omega) (by decide) dX8_sale_165 ?_
      rw [upA_at, sR0, upd_ne _ _ (by omega), upd_ne _ _ (by omega), upd_ne _ _ (by omega), upd_ne _ _ (by omega), ← sR0]
      refine z_aload_n cx 0 dX8_sale_166 rfl rfl ?_
      refine z_iload_n cx 2 dX8_sale_167 rfl rfl ?_
      refine z_iload cx dX8_sale_168 rfl ?_
      refine z_V2i cx vX8_worthOf kX8_134 (c_X8_worthOf hg _ hj br) (by decide) hM0 rfl rfl (Nat.le_of_ble_eq_true rfl) dX8_sale_170 ?_
      rw [upA_at, show upd (upd (sR0 f t br (nI j)) (7 + 9 * t + 4) cost) (70 + 6 * j + 3) (f (70 + 6 * j + 3) - left) (70 + 6 * j) = f (70 + 6 * j) by rw [sR0, upd_ne _ _ (by omega), upd_ne _ _ (by omega), upd_ne _ _ (by omega), upd_ne _ _ (by omega)], show upd (upd (sR0 f t br (nI j)) (7 + 9 * t + 4) cost) (70 + 6 * j + 3) (f (70 + 6 * j + 3) - left) (70 + 6 * j + 1) = f (70 + 6 * j + 1) by rw [sR0, upd_ne _ _ (by omega), upd_ne _ _ (by omega), upd_ne _ _ (by omega), upd_ne _ _ (by omega)]]
      refine z_iadd cx dX8_sale_173 ?_
      refine g_iastN cx (70 + 6 * j + 4) (by decide) (fun _ => rfl) (nI_add _ 4) (by omega) (by decide) dX8_sale_174 ?_
      rw [up2_upA]
      refine z_aload_n cx 0 dX8_sale_175 rfl rfl ?_
      refine gX8_7 cx dX8_sale_176 ?_
      refine z_bipush cx dX8_sale_179 bi_6 ?_
      refine z_dup2 cx dX8_sale_181 rfl rfl ?_
      refine g_ialdN cx 6 (by decide) (fun _ => rfl) rfl (by omega) (by decide) dX8_sale_182 ?_
      rw [upA_at, sR0, upd_ne _ _ (by omega), upd_ne _ _ (by omega), upd_ne _ _ (by omega), upd_ne _ _ (by omega), upd_ne _ _ (by omega), ← sR0]
      refine z_iload cx dX8_sale_183 rfl ?_
      refine z_iadd cx dX8_sale_185 ?_
      refine g_iastN cx 6 (by decide) (fun _ => rfl) rfl (by omega) (by decide) dX8_sale_186 ?_
      rw [up2_upA]
      have e8 := tail ρ (sR1 f t br j cost) cost (some (.int (bI br))) (some (.int left)) (by rw [sR1, sR0, upd_ne _ _ (by omega), upd_ne _ _ (by omega), upd_ne _ _ (by omega), upd_ne _ _ (by omega), upd_ne _ _ (by omega), upd_ne _ _ (by omega)]; exact f2) (by rw [saR, hbr, hwho, hw, if_neg (nI_nm1_big (by omega)), nI_clamp (by omega), hc, hfe]) (by rw [hw, if_neg (nI_nm1_big (by omega)), hc]) hq
      rw [hw] at e8
      exact z_eq (by rw [sR1, hl9]) rfl rfl e8
    have mid : ∀ (ρ : Mem) (x y : Option Value), ρ 1 = f → (∀ b, b < 5 → ρ 8 b = tbF σ1 B b) → (∀ q, q ≠ 1 → q ≠ 8 → ρ q = σ1 q) → Z κ (OM g) (upA ρ 1 (upd f (7 + 9 * t + 5) (bI br))) 75 [some (.ref (g.ad 0)), some (.int z), some (.int who), some (.int (nI (7 + 9 * t))), some (.int (bI br)), some (.int 0), y] [] := by
      intro ρ x y r1 r8 hq
      refine z_aload_n cx 0 dX8_sale_75 rfl rfl ?_
      refine gX8_7 cx dX8_sale_76 ?_
      refine z_iload_n cx 3 dX8_sale_79 rfl rfl ?_
      refine z_iconst cx dX8_sale_80 ic_3 ?_
      refine z_iadd cx dX8_sale_81 ?_
      refine z_iload_n cx 2 dX8_sale_82 rfl rfl ?_
      refine g_iastN cx (7 + 9 * t + 3) (by decide) (fun _ => rfl) (nI_add _ 3) (by omega) (by decide) dX8_sale_83 ?_
      rw [up2_upA, ← sR0]
      rcases hrng with hw | ⟨j, hj, hw⟩
      · rw [hw]
        refine z_iload_n cx 2 dX8_sale_84 rfl rfl ?_
        refine z_iconst cx dX8_sale_85 ic_m1 ?_
        refine z_icmp_eq (tgt := 187) cx dX8_sale_86 (by decide) (fun c_86 => ?_) (fun c_86 => ?_)
        · have e8 := tail ρ (sR0 f t br (-1)) 0 (some (.int (bI br))) y (by rw [sR0, upd_ne _ _ (by omega), upd_ne _ _ (by omega)]; exact f2) (by rw [saR, hbr, hwho, hw, if_pos rfl, hfe]) (by rw [saP, hwho, hw, if_pos rfl, if_pos rfl]) hq
          rw [hw] at e8
          exact e8
        · exact absurd rfl c_86
      have hn1 : ¬ nI j = -1 := nI_nm1_big (by omega)
      have eC : saP σ1 B = pay (f 3) (f 4) (tbF σ1 B) j 5 := by rw [saP, hwho, hw, if_neg hn1, nI_clamp (by omega), hfe]
      rw [hw]
      refine z_iload_n cx 2 dX8_sale_84 rfl rfl ?_
      refine z_iconst cx dX8_sale_85 ic_m1 ?_
      refine z_icmp_eq (tgt := 187) cx dX8_sale_86 (by decide) (fun c_86 => ?_) (fun c_86 => ?_)
      · exact absurd c_86 hn1
      · refine z_aload_n cx 0 dX8_sale_89 rfl rfl ?_
        refine z_iload_n cx 2 dX8_sale_90 rfl rfl ?_
        refine z_aload_n cx 0 dX8_sale_91 rfl rfl ?_
        refine gX8_7 cx dX8_sale_92 ?_
        refine z_iconst cx dX8_sale_95 ic_3 ?_
        refine g_ialdN cx 3 (by decide) (fun _ => rfl) rfl (by omega) (by decide) dX8_sale_96 ?_
        rw [upA_at, sR0, upd_ne _ _ (by omega), upd_ne _ _ (by omega), ← sR0]
        refine z_V2i cx vX8_costOf kX8_167 (c_X8_costOf hg (upA ρ 1 (sR0 f t br (nI j))) hj _) (by decide) hM0 rfl rfl (Nat.le_of_ble_eq_true rfl) dX8_sale_97 ?_
        rw [show pay (f 3) (upA ρ 1 (sR0 f t br (nI j)) 1 4) (upA ρ 1 (sR0 f t br (nI j)) 8) j 5 = pay (f 3) (f 4) (tbF σ1 B) j 5 by rw [upA_at, upA_ne _ _ (by decide), sR0, upd_ne _ _ (by omega), upd_ne _ _ (by omega)]; exact pay_congr _ _ (r8 j hj) r8]
        generalize hcost : pay (f 3) (f 4) (tbF σ1 B) j 5 = cost at eC
        refine z_istore cx dX8_sale_100 hnL (by decide) rfl ?_
        refine z_iload cx dX8_sale_102 rfl ?_
        refine z_iload cx dX8_sale_104 rfl ?_
        refine z_ifb_eq (tgt := 113) cx dX8_sale_106 (by decide) (fun c_106 => ?_) (fun c_106 => ?_)
        · refine z_aload_n cx 0 dX8_sale_113 rfl rfl ?_
          refine z_aload_n cx 0 dX8_sale_114 rfl rfl ?_
          refine gX8_7 cx dX8_sale_115 ?_
          refine z_iconst cx dX8_sale_118 ic_2 ?_
          refine g_ialdN cx 2 (by decide) (fun _ => rfl) rfl (by omega) (by decide) dX8_sale_119 ?_
          rw [upA_at, sR0, upd_ne _ _ (by omega), upd_ne _ _ (by omega), ← sR0, f2]
          refine z_iload cx dX8_sale_120 rfl ?_
          refine z_V2i cx vX8_backOf kX8_138 (c_X8_backOf hg (upA ρ 1 (sR0 f t br (nI j))) (i := t) (by omega) _) (by decide) hM0 rfl rfl (Nat.le_of_ble_eq_true rfl) dX8_sale_122 ?_
          rw [upA_at, show sR0 f t br (nI j) (7 + 9 * t) = f (7 + 9 * t) by rw [sR0, upd_ne _ _ (by omega), upd_ne _ _ (by omega)], show sR0 f t br (nI j) 5 = f 5 by rw [sR0, upd_ne _ _ (by omega), upd_ne _ _ (by omega)]]
          refine z_isub cx dX8_sale_125 ?_
          exact z_eq rfl rfl (by rw [lft, if_neg (by rw [c_106]; decide)]) (mid2 ρ j cost _ hw hj eC.symm hq)
        · refine z_iconst cx dX8_sale_109 ic_0 ?_
          refine z_goto (tgt := 125) cx dX8_sale_110 (by decide) ?_
          refine z_isub cx dX8_sale_125 ?_
          exact z_eq rfl rfl (by rw [lft, if_pos c_106, Int32.sub_zero]) (mid2 ρ j cost _ hw hj eC.symm hq)
    refine z_aload_n cx 0 dX8_sale_28 rfl rfl ?_
    refine z_V0v cx vX8_takesBids kX8_158 (c_X8_takesBids hg σ1 hB (by rw [hfe]; exact f1)) (by decide) hM0 rfl rfl (Nat.le_of_ble_eq_true rfl) dX8_sale_29 ?_
    have eW : ow (upA σ1 8 (tkF σ1 B 5) 1 4) (upA σ1 8 (tkF σ1 B 5) 8) 5 = who := by
      rw [upA_at, ← hwho]; exact ow_congr _ (by decide) (fun b hb => tkF_tb σ1 B hb)
    have r8 : ∀ b, b < 5 → upA σ1 8 (tkF σ1 B 5) 8 b = tbF σ1 B b := fun b hb => by rw [upA_at]; exact tkF_tb σ1 B hb
    have hq : ∀ q, q ≠ 1 → q ≠ 8 → upA σ1 8 (tkF σ1 B 5) q = σ1 q := fun q _ q2 => upA_ne _ _ q2
    have r1 : upA σ1 8 (tkF σ1 B 5) 1 = f := hfe
    generalize upA σ1 8 (tkF σ1 B 5) = ρ at *
    refine z_aload_n cx 0 dX8_sale_32 rfl rfl ?_
    refine z_V0i cx vX8_buyer kX8_161 (c_X8_buyer hg ρ (by rw [r1]; exact f4)) (by decide) hM0 rfl rfl (Nat.le_of_ble_eq_true rfl) dX8_sale_33 ?_
    rw [eW]
    refine z_istore_n cx 2 dX8_sale_36 rfl hnL (by decide) rfl ?_
    refine z_aload_n cx 0 dX8_sale_37 rfl rfl ?_
    refine gX8_7 cx dX8_sale_38 ?_
    refine z_iconst cx dX8_sale_41 ic_2 ?_
    refine g_ialdN cx 2 (by decide) (fun _ => rfl) rfl (by omega) (by decide) dX8_sale_42 ?_
    rw [r1, f2]
    refine z_S1i cx sX8_eveningAt kX8_98 (c_X8_eveningAt hg _ t) (by decide) (Nat.le_of_ble_eq_true rfl) dX8_sale_43 ?_
    refine z_istore_n cx 3 dX8_sale_46 rfl hnL (by decide) rfl ?_
    refine z_aload_n cx 0 dX8_sale_47 rfl rfl ?_
    refine z_iload_n cx 1 dX8_sale_48 rfl rfl ?_
    refine z_V1i cx vX8_isBright kX8_164 (c_X8_isBright hg ρ z (e := t) (by omega) (by rw [r1]; exact f2)) (by decide) hM0 rfl rfl (Nat.le_of_ble_eq_true rfl) dX8_sale_49 ?_
    rw [r1, eb]
    refine z_istore cx dX8_sale_52 hnL (by decide) rfl ?_
    refine z_iconst cx dX8_sale_54 ic_0 ?_
    refine z_istore cx dX8_sale_55 hnL (by decide) rfl ?_
    refine z_aload_n cx 0 dX8_sale_57 rfl rfl ?_
    refine gX8_7 cx dX8_sale_58 ?_
    refine z_iload_n cx 3 dX8_sale_61 rfl rfl ?_
    refine z_iconst cx dX8_sale_62 ic_5 ?_
    refine z_iadd cx dX8_sale_63 ?_
    refine z_iload cx dX8_sale_64 rfl ?_
    refine z_ifb_eq (tgt := 73) cx dX8_sale_66 (by decide) (fun c_66 => ?_) (fun c_66 => ?_)
    · refine z_iconst cx dX8_sale_73 ic_0 ?_
      refine g_iastN cx (7 + 9 * t + 5) (by decide) (fun _ => rfl) (nI_add _ 5) (by omega) (by decide) dX8_sale_74 ?_
      refine z_eq ?_ rfl rfl (mid ρ none _ r1 r8 hq)
      rw [← r1, c_66, ← upA_self ρ 1, up2_upA, upA_self]; rfl
    · refine z_iconst cx dX8_sale_69 ic_1 ?_
      refine z_goto (tgt := 74) cx dX8_sale_70 (by decide) ?_
      refine g_iastN cx (7 + 9 * t + 5) (by decide) (fun _ => rfl) (nI_add _ 5) (by omega) (by decide) dX8_sale_74 ?_
      refine z_eq ?_ rfl rfl (mid ρ none _ r1 r8 hq)
      rw [← r1, c_66, ← upA_self ρ 1, up2_upA, upA_self]; rfl
  refine z_iload_n cx 1 dX8_sale_0 rfl rfl ?_
  refine z_iconst cx dX8_sale_1 ic_0 ?_
  refine z_sipush cx dX8_sale_2 si_9999 ?_
  refine z_S3i cx sX8_in kX8_35 (c_X8_in hg σ _ _ _) (by decide) (Nat.le_of_ble_eq_true rfl) dX8_sale_5 ?_
  refine z_ifb_ne (tgt := 14) cx dX8_sale_8 (by decide) (fun c_8 => ?_) (fun c_8 => ?_)
  · have c8 : ¬ inW z 9999 = false := by rw [show inW z 9999 = true from c_8]; decide
    refine z_aload_n cx 0 dX8_sale_14 rfl rfl ?_
    refine z_V0i cx vX8_isTonight kX8_141 (c_X8_isTonight (E := E) (t := t) hg σ (by omega) (by omega) eE eT) (by decide) hM0 rfl rfl (Nat.le_of_ble_eq_true rfl) dX8_sale_15 ?_
    refine z_ifb_ne (tgt := 24) cx dX8_sale_18 (by decide) (fun c_18 => ?_) (fun c_18 => ?_)
    · have c18 : ¬ inR (σ 1 2) (σ 1 0) = false := by rw [nit_of hM, c_18]; decide
      have htE : t < E := of_decide_eq_true c_18
      refine z_aload_n cx 0 dX8_sale_24 rfl rfl ?_
      refine z_V0V cx vX8_notes kX8_144 (c_X8_notes hg σ hn eN) (by decide) hM0 rfl rfl (Nat.le_of_ble_eq_true rfl) dX8_sale_25 (fun σ_25 h_25 => ?_)
      exact ok (by rw [slN, if_neg c8, if_neg c18]) htE σ_25 h_25
    · have c18 : inR (σ 1 2) (σ 1 0) = false := by rw [nit_of hM, c_18]
      refine z_bipush cx dX8_sale_21 bi_m4 ?_
      have e9 : slN σ z = -4 := by rw [slN, if_neg c8, if_pos c18]
      exact z_iret cx hR ⟨_, rfl, fun q9 => absurd (e9.symm.trans q9) (by decide), fun _ => ⟨e9.symm, rfl⟩⟩ dX8_sale_23
  · have c8 : inW z 9999 = false := c_8
    refine z_bipush cx dX8_sale_11 bi_m3 ?_
    have e9 : slN σ z = -3 := by rw [slN, if_pos c8]
    exact z_iret cx hR ⟨_, rfl, fun q9 => absurd (e9.symm.trans q9) (by decide), fun _ => ⟨e9.symm, rfl⟩⟩ dX8_sale_13
/-- the least that a set with one makes one pay: its payment, the set; c sets are looked at -/
def clG (P : Nat → Int32) (who : Nat) : Nat → Int32 × Int32
  | 0 => (0, -1)
  | k + 1 => if bt5 k who = true ∧ ¬ (nI k &&& (nI k - 1)) = 0 then (if (clG P who k).2 = -1 ∨ P k < (clG P who k).1 then (P k, nI k) else clG P who k) else clG P who k
theorem clG_rng (P : Nat → Int32) (who : Nat) : ∀ n, (clG P who n).2 = -1 ∨ ∃ j, j < n ∧ (clG P who n).2 = nI j
  | 0 => Or.inl rfl
  | n + 1 => by
    have ih := clG_rng P who n
    have ih2 : (clG P who n).2 = -1 ∨ ∃ j, j < n + 1 ∧ (clG P who n).2 = nI j := ih.imp id (fun ⟨j, h1, h2⟩ => ⟨j, by omega, h2⟩)
    rw [clG]
    split
    · split
      · exact Or.inr ⟨n, by omega, rfl⟩
      · exact ih2
    · exact ih2
def caP (μ : Mem) (B who : Nat) : Nat → Int32 := fun k => pay (μ 1 3) (μ 1 4) (siB (tbF μ B) k who) who 5
def caM (μ : Mem) (B : Nat) (w : Int32) : Int32 := if inW w 1 = false then -3 else if inR (μ 1 2) (μ 1 0) = false then -4 else if saW μ B = -1 then -1 else if B < 2 then -1 else
  if w = 0 then pay (μ 1 3) (μ 1 4) (tbF μ B) (toN (saW μ B)) 5 - (clG (caP μ B (toN (saW μ B))) (toN (saW μ B)) (2 ^ B)).1 else (clG (caP μ B (toN (saW μ B))) (toN (saW μ B)) (2 ^ B)).2
def siF (bd : Nat → Int32) (k w i : Nat) : Nat → Int32 := fun b => if b < i then (if b ≠ w ∧ bt5 k b = true then -1 else bd b) else bd b
theorem siF_0 (bd : Nat → Int32) (k w : Nat) : siF bd k w 0 = bd := by funext b; simp only [siF]; rw [if_neg (by omega)]
theorem siF_s (bd : Nat → Int32) (k w i : Nat) : upd (siF bd k w i) i (if i ≠ w ∧ bt5 k i = true then -1 else bd i) = siF bd k w (i + 1) := by
  funext b
  by_cases q : b = i
  · subst q; rw [upd_at]; simp only [siF]; rw [if_pos (show b < b + 1 by omega)]
  · rw [upd_ne _ _ q]; simp only [siF]
    by_cases q2 : b < i
    · rw [if_pos q2, if_pos (show b < i + 1 by omega)]
    · rw [if_neg q2, if_neg (show ¬ b < i + 1 by omega)]
theorem siF_at (bd : Nat → Int32) (k w i : Nat) : siF bd k w i i = bd i := by simp only [siF]; rw [if_neg (by omega)]
set_option maxRecDepth 100000 in
set_option maxHeartbeats 4000000 in
theorem c_X8_cartel {l : Launch} {g : Gx} (hg : ApG 9 g.ad) (σ : Mem) {E B t : Nat} (hM : MH σ E B t) (hr : RsH σ) (w : Int32) : CtI l (OM g) 2 mX8_cartel [.ref (g.ad 0), .int w] σ (fun v σ' => v = caM σ B w ∧ OffR σ' σ) := by
  refine ct_of (lv := [some (.ref (g.ad 0)), some (.int w), none, none, none, none, none, none]) (okM hg) (by decide +kernel) (Nat.le_of_ble_eq_true rfl) (fun ls h => lvh_entry h rfl 6) ?_
  intro κ hl hnL cx hR
  subst hl
  have cx : Cx κ (OM g) RX8 cX8_cartel 2 := cx
  have hnL : κ.nL = 8 := hnL
  have hM0 := hM
  obtain ⟨⟨hE, eE⟩, ⟨hB, eB⟩, ht, eT⟩ := hM0
  have loop : ∀ (wh : Nat) (cost : Int32), wh < 5 → (∀ v, v = (if w = 0 then cost - (clG (caP σ B wh) wh (2 ^ B)).1 else (clG (caP σ B wh) wh (2 ^ B)).2) → v = caM σ B w) → ∀ (c k : Nat) (τ : Mem) (y : Option Value), 2 ^ B + 1 ≤ k + c → k ≤ 2 ^ B → OffR τ σ → Z κ (OM g) τ 69 [some (.ref (g.ad 0)), some (.int w), some (.int (nI wh)), some (.int cost), some (.int (clG (caP σ B wh) wh k).2), some (.int (clG (caP σ B wh) wh k).1), some (.int (nI k)), y] [] := by
    intro wh cost hw hv c
    have h2B := two5 hB
    induction c with
    | zero => intro k τ y h1 h2; exact absurd h1 (by omega)
    | succ c ih =>
      intro k τ y h1 h2 hO
      have r1 : τ 1 = σ 1 := hO.2 1 (by decide) (by decide)
      have inner : bt5 k wh = true ∧ ¬ (nI k &&& (nI k - 1)) = 0 → k < 2 ^ B → ∀ (d i : Nat) (ρ : Mem) (f : Nat → Int32), 5 + 1 ≤ i + d → i ≤ 5 → OffR ρ σ → (∀ b, b < 5 → f b = tbF σ B b) → Z κ (OM g) (upA ρ 8 (siF f k wh i)) 108 [some (.ref (g.ad 0)), some (.int w), some (.int (nI wh)), some (.int cost), some (.int (clG (caP σ B wh) wh k).2), some (.int (clG (caP σ B wh) wh k).1), some (.int (nI k)), some (.int (nI i))] [] := by
        intro hb hk d
        induction d with
        | zero => intro i ρ f h1 h2; exact absurd h1 (by omega)
        | succ d ihd =>
          intro i ρ f h1 h2 hO2 hf
          refine z_iload cx dX8_cartel_108 rfl ?_
          refine z_iconst cx dX8_cartel_110 ic_5 ?_
          refine z_icmp_ge (tgt := 154) cx dX8_cartel_111 (by decide) (fun c_111 => ?_) (fun c_111 => ?_)
          · have c6 := (nI_leI (a := 5) (by omega) (by omega)).mp c_111
            have e5 : i = 5 := by omega
            subst e5
            have O3 : OffR (upA ρ 8 (siF f k wh 5)) σ := ⟨hO2.1, fun q q1 q2 => by rw [upA_ne _ _ q2]; exact hO2.2 q q1 q2⟩
            have eP : pay (upA ρ 8 (siF f k wh 5) 1 3) (upA ρ 8 (siF f k wh 5) 1 4) (upA ρ 8 (siF f k wh 5) 8) wh 5 = caP σ B wh k := by
              have h9 : ∀ b, b < 5 → siF f k wh 5 b = siB (tbF σ B) k wh b := fun b hb => by simp only [siF, siB]; rw [if_pos hb, hf b hb]
              rw [upA_at, show upA ρ 8 (siF f k wh 5) 1 = σ 1 from hO2.2 1 (by decide) (by decide)]
              exact pay_congr _ _ (h9 wh hw) h9
            have e1 : upA ρ 8 (siF f k wh 5) 1 = σ 1 := O3.2 1 (by decide) (by decide)
            generalize upA ρ 8 (siF f k wh 5) = π9 at *
            refine z_aload_n cx 0 dX8_cartel_154 rfl rfl ?_
            refine z_iload_n cx 2 dX8_cartel_155 rfl rfl ?_
            refine z_aload_n cx 0 dX8_cartel_156 rfl rfl ?_
            refine gX8_7 cx dX8_cartel_157 ?_
            refine z_iconst cx dX8_cartel_160 ic_3 ?_
            refine g_ialdN cx 3 (by decide) (fun _ => rfl) rfl (by omega) (by decide) dX8_cartel_161 ?_
            refine z_V2i cx vX8_costOf kX8_167 (c_X8_costOf hg π9 hw _) (by decide) hM0 rfl rfl (Nat.le_of_ble_eq_true rfl) dX8_cartel_162 ?_
            rw [eP]
            refine z_istore cx dX8_cartel_165 hnL (by decide) rfl ?_
            refine z_iload cx dX8_cartel_167 rfl ?_
            refine z_iconst cx dX8_cartel_169 ic_m1 ?_
            refine z_icmp_eq (tgt := 180) cx dX8_cartel_170 (by decide) (fun c_170 => ?_) (fun c_170 => ?_)
            · refine z_iload cx dX8_cartel_180 rfl ?_
              refine z_goto (tgt := 187) cx dX8_cartel_182 (by decide) ?_
              refine z_istore cx dX8_cartel_187 hnL (by decide) rfl ?_
              refine z_iload cx dX8_cartel_189 rfl ?_
              refine z_iload cx dX8_cartel_191 rfl ?_
              refine z_icmp_ne (tgt := 201) cx dX8_cartel_193 (by decide) (fun c_193 => ?_) (fun c_193 => ?_)
              · exact absurd rfl c_193
              · refine z_iload cx dX8_cartel_196 rfl ?_
                refine z_goto (tgt := 203) cx dX8_cartel_198 (by decide) ?_
                refine z_istore cx dX8_cartel_203 hnL (by decide) rfl ?_
                refine z_iinc cx dX8_cartel_205 rfl ic_1 (nI_1 k) hnL (by decide) rfl ?_
                refine z_goto (tgt := 69) cx dX8_cartel_208 (by decide) ?_
                exact z_eq rfl (by rw [clG, if_pos hb, if_pos (Or.inl c_170)]; rfl) rfl (ih (k + 1) π9 _ (by omega) (by omega) O3)
            · refine z_iload cx dX8_cartel_173 rfl ?_
              refine z_iload cx dX8_cartel_175 rfl ?_
              refine z_icmp_ge (tgt := 185) cx dX8_cartel_177 (by decide) (fun c_177 => ?_) (fun c_177 => ?_)
              · refine z_iload cx dX8_cartel_185 rfl ?_
                refine z_istore cx dX8_cartel_187 hnL (by decide) rfl ?_
                refine z_iload cx dX8_cartel_189 rfl ?_
                refine z_iload cx dX8_cartel_191 rfl ?_
                refine z_icmp_ne (tgt := 201) cx dX8_cartel_193 (by decide) (fun c_193 => ?_) (fun c_193 => ?_)
                · refine z_iload cx dX8_cartel_201 rfl ?_
                  refine z_istore cx dX8_cartel_203 hnL (by decide) rfl ?_
                  refine z_iinc cx dX8_cartel_205 rfl ic_1 (nI_1 k) hnL (by decide) rfl ?_
                  refine z_goto (tgt := 69) cx dX8_cartel_208 (by decide) ?_
                  exact z_eq rfl (by rw [clG, if_pos hb, if_neg (fun z => z.elim c_170 (fun q => absurd c_177 (Int32.not_le.mpr q)))]; rfl) rfl (ih (k + 1) π9 _ (by omega) (by omega) O3)
                · exact absurd c_193 (fun z => by
                    rcases clG_rng (caP σ B wh) wh k with q | ⟨j, q1, q2⟩
                    · exact c_170 q
                    · rw [q2] at z
                      exact absurd ((nI_eq (by omega) (by omega)).mp z) (by omega))
              · refine z_iload cx dX8_cartel_180 rfl ?_
                refine z_goto (tgt := 187) cx dX8_cartel_182 (by decide) ?_
                refine z_istore cx dX8_cartel_187 hnL (by decide) rfl ?_
                refine z_iload cx dX8_cartel_189 rfl ?_
                refine z_iload cx dX8_cartel_191 rfl ?_
                refine z_icmp_ne (tgt := 201) cx dX8_cartel_193 (by decide) (fun c_193 => ?_) (fun c_193 => ?_)
                · exact absurd rfl c_193
                · refine z_iload cx dX8_cartel_196 rfl ?_
                  refine z_goto (tgt := 203) cx dX8_cartel_198 (by decide) ?_
                  refine z_istore cx dX8_cartel_203 hnL (by decide) rfl ?_
                  refine z_iinc cx dX8_cartel_205 rfl ic_1 (nI_1 k) hnL (by decide) rfl ?_
                  refine z_goto (tgt := 69) cx dX8_cartel_208 (by decide) ?_
                  exact z_eq rfl (by rw [clG, if_pos hb, if_pos (Or.inr (Int32.not_le.mp c_177))]; rfl) rfl (ih (k + 1) π9 _ (by omega) (by omega) O3)
          · have c6 : ¬ 5 ≤ i := fun q => c_111 ((nI_leI (a := 5) (by omega) (by omega)).mpr q)
            refine z_aload_n cx 0 dX8_cartel_114 rfl rfl ?_
            refine gX8_32 cx dX8_cartel_115 ?_
            refine z_iload cx dX8_cartel_118 rfl ?_
            refine z_iload cx dX8_cartel_120 rfl ?_
            refine z_iload_n cx 2 dX8_cartel_122 rfl rfl ?_
            refine z_icmp_eq (tgt := 140) cx dX8_cartel_123 (by decide) (fun c_123 => ?_) (fun c_123 => ?_)
            · have c23 : ¬ (i ≠ wh ∧ bt5 k i = true) := fun z => z.1 ((nI_eq (by omega) (by omega)).mp c_123)
              refine z_aload_n cx 0 dX8_cartel_140 rfl rfl ?_
              refine gX8_32 cx dX8_cartel_141 ?_
              refine z_iload cx dX8_cartel_144 rfl ?_
              refine g_ialdN cx i (by decide) (fun _ => rfl) rfl (by omega) (by decide) dX8_cartel_146 ?_
              rw [upA_at, siF_at]
              refine g_iastN cx i (by decide) (fun _ => rfl) rfl (by omega) (by decide) dX8_cartel_147 ?_
              refine z_iinc cx dX8_cartel_148 rfl ic_1 (nI_1 i) hnL (by decide) rfl ?_
              refine z_goto (tgt := 108) cx dX8_cartel_151 (by decide) ?_
              exact z_eq (by rw [up2_upA, ← siF_s, if_neg c23]) rfl rfl (ihd (i + 1) ρ f (by omega) (by omega) hO2 hf)
            · have c23 : i ≠ wh := fun z => c_123 (by rw [z])
              refine z_iload cx dX8_cartel_126 rfl ?_
              refine z_iload cx dX8_cartel_128 rfl ?_
              refine z_S2i cx sX8_has kX8_193 (c_X8_has hg _ k i) (by decide) (Nat.le_of_ble_eq_true rfl) dX8_cartel_130 ?_
              refine z_ifb_eq (tgt := 140) cx dX8_cartel_133 (by decide) (fun c_133 => ?_) (fun c_133 => ?_)
              · have c23 : ¬ (i ≠ wh ∧ bt5 k i = true) := fun z => absurd (c_133.symm.trans z.2) (by decide)
                refine z_aload_n cx 0 dX8_cartel_140 rfl rfl ?_
                refine gX8_32 cx dX8_cartel_141 ?_
                refine z_iload cx dX8_cartel_144 rfl ?_
                refine g_ialdN cx i (by decide) (fun _ => rfl) rfl (by omega) (by decide) dX8_cartel_146 ?_
                rw [upA_at, siF_at]
                refine g_iastN cx i (by decide) (fun _ => rfl) rfl (by omega) (by decide) dX8_cartel_147 ?_
                refine z_iinc cx dX8_cartel_148 rfl ic_1 (nI_1 i) hnL (by decide) rfl ?_
                refine z_goto (tgt := 108) cx dX8_cartel_151 (by decide) ?_
                exact z_eq (by rw [up2_upA, ← siF_s, if_neg c23]) rfl rfl (ihd (i + 1) ρ f (by omega) (by omega) hO2 hf)
              · refine z_iconst cx dX8_cartel_136 ic_m1 ?_
                refine z_goto (tgt := 147) cx dX8_cartel_137 (by decide) ?_
                refine g_iastN cx i (by decide) (fun _ => rfl) rfl (by omega) (by decide) dX8_cartel_147 ?_
                refine z_iinc cx dX8_cartel_148 rfl ic_1 (nI_1 i) hnL (by decide) rfl ?_
                refine z_goto (tgt := 108) cx dX8_cartel_151 (by decide) ?_
                exact z_eq (by rw [up2_upA, ← siF_s, if_pos ⟨c23, c_133⟩]) rfl rfl (ihd (i + 1) ρ f (by omega) (by omega) hO2 hf)
      refine z_iload cx dX8_cartel_69 rfl ?_
      refine z_iconst cx dX8_cartel_71 ic_1 ?_
      refine z_aload_n cx 0 dX8_cartel_72 rfl rfl ?_
      refine gX8_7 cx dX8_cartel_73 ?_
      refine z_iconst cx dX8_cartel_76 ic_1 ?_
      refine g_ialdN cx 1 (by decide) (fun _ => rfl) rfl (by omega) (by decide) dX8_cartel_77 ?_
      rw [r1, eB]
      refine z_ishl cx dX8_cartel_78 ?_
      rw [shl5 B hB]
      refine z_icmp_ge (tgt := 211) cx dX8_cartel_79 (by decide) (fun c_79 => ?_) (fun c_79 => ?_)
      · have c79 := (nI_leI (by omega) (by omega)).mp c_79
        have e5 : k = 2 ^ B := by omega
        subst e5
        refine z_iload_n cx 1 dX8_cartel_211 rfl rfl ?_
        refine z_if_ne (tgt := 222) cx dX8_cartel_212 (by decide) (fun c_212 => ?_) (fun c_212 => ?_)
        · refine z_iload cx dX8_cartel_222 rfl ?_
          exact z_iret cx hR ⟨_, rfl, hv _ (by rw [if_neg c_212]), hO⟩ dX8_cartel_224
        · refine z_iload_n cx 3 dX8_cartel_215 rfl rfl ?_
          refine z_iload cx dX8_cartel_216 rfl ?_
          refine z_isub cx dX8_cartel_218 ?_
          refine z_goto (tgt := 224) cx dX8_cartel_219 (by decide) ?_
          exact z_iret cx hR ⟨_, rfl, hv _ (by rw [if_pos c_212]), hO⟩ dX8_cartel_224
      · have c79 : ¬ 2 ^ B ≤ k := fun z => c_79 ((nI_leI (by omega) (by omega)).mpr z)
        refine z_iload cx dX8_cartel_82 rfl ?_
        refine z_iload_n cx 2 dX8_cartel_84 rfl rfl ?_
        refine z_S2i cx sX8_has kX8_193 (c_X8_has hg _ k wh) (by decide) (Nat.le_of_ble_eq_true rfl) dX8_cartel_85 ?_
        refine z_ifb_eq (tgt := 205) cx dX8_cartel_88 (by decide) (fun c_88 => ?_) (fun c_88 => ?_)
        · refine z_iinc cx dX8_cartel_205 rfl ic_1 (nI_1 k) hnL (by decide) rfl ?_
          refine z_goto (tgt := 69) cx dX8_cartel_208 (by decide) ?_
          exact z_eq rfl (by rw [clG, if_neg (fun z => absurd (c_88.symm.trans z.1) (by decide))]; rfl) rfl (ih (k + 1) τ _ (by omega) (by omega) hO)
        · refine z_iload cx dX8_cartel_91 rfl ?_
          refine z_iload cx dX8_cartel_93 rfl ?_
          refine z_iconst cx dX8_cartel_95 ic_1 ?_
          refine z_isub cx dX8_cartel_96 ?_
          refine z_iand cx dX8_cartel_97 ?_
          refine z_if_eq (tgt := 205) cx dX8_cartel_98 (by decide) (fun c_98 => ?_) (fun c_98 => ?_)
          · refine z_iinc cx dX8_cartel_205 rfl ic_1 (nI_1 k) hnL (by decide) rfl ?_
            refine z_goto (tgt := 69) cx dX8_cartel_208 (by decide) ?_
            exact z_eq rfl (by rw [clG, if_neg (fun z => z.2 c_98)]; rfl) rfl (ih (k + 1) τ _ (by omega) (by omega) hO)
          · refine z_aload_n cx 0 dX8_cartel_101 rfl rfl ?_
            refine z_V0v cx vX8_takesBids kX8_158 (c_X8_takesBids hg τ hB (by rw [r1]; exact eB)) (by decide) hM0 rfl rfl (Nat.le_of_ble_eq_true rfl) dX8_cartel_102 ?_
            refine z_iconst cx dX8_cartel_105 ic_0 ?_
            refine z_istore cx dX8_cartel_106 hnL (by decide) rfl ?_
            exact z_eq (by rw [siF_0]) rfl rfl (inner ⟨c_88, c_98⟩ (by omega) 6 0 τ (tkF τ B 5) (by omega) (by omega) hO (fun b hb => by rw [tkF_tb τ B hb, tbF_off r1]))
  refine z_iload_n cx 1 dX8_cartel_0 rfl rfl ?_
  refine z_iconst cx dX8_cartel_1 ic_0 ?_
  refine z_iconst cx dX8_cartel_2 ic_1 ?_
  refine z_S3i cx sX8_in kX8_35 (c_X8_in hg σ _ _ _) (by decide) (Nat.le_of_ble_eq_true rfl) dX8_cartel_3 ?_
  refine z_ifb_ne (tgt := 12) cx dX8_cartel_6 (by decide) (fun c_6 => ?_) (fun c_6 => ?_)
  · have c6 : ¬ inW w 1 = false := by rw [show inW w 1 = true from c_6]; decide
    refine z_aload_n cx 0 dX8_cartel_12 rfl rfl ?_
    refine z_V0i cx vX8_isTonight kX8_141 (c_X8_isTonight (E := E) (t := t) hg σ (by omega) (by omega) eE eT) (by decide) hM0 rfl rfl (Nat.le_of_ble_eq_true rfl) dX8_cartel_13 ?_
    refine z_ifb_ne (tgt := 22) cx dX8_cartel_16 (by decide) (fun c_16 => ?_) (fun c_16 => ?_)
    · have c16 : ¬ inR (σ 1 2) (σ 1 0) = false := by rw [nit_of hM, c_16]; decide
      have htE : t < E := of_decide_eq_true c_16
      refine z_aload_n cx 0 dX8_cartel_22 rfl rfl ?_
      refine z_V0v cx vX8_takesBids kX8_158 (c_X8_takesBids hg σ hB eB) (by decide) hM0 rfl rfl (Nat.le_of_ble_eq_true rfl) dX8_cartel_23 ?_
      have eW : ow (upA σ 8 (tkF σ B 5) 1 4) (upA σ 8 (tkF σ B 5) 8) 5 = saW σ B := by
        rw [upA_at]; exact ow_congr _ (by decide) (fun b hb => tkF_tb σ B hb)
      have eY : ∀ (ru : Int32) (j : Nat), j < 5 → pay ru (upA σ 8 (tkF σ B 5) 1 4) (upA σ 8 (tkF σ B 5) 8) j 5 = pay ru (σ 1 4) (tbF σ B) j 5 := by
        intro ru j hj
        rw [upA_at]; exact pay_congr _ _ (tkF_tb σ B hj) (fun b hb => tkF_tb σ B hb)
      have O2 : OffR (upA σ 8 (tkF σ B 5)) σ := ⟨fun _ _ => rfl, fun q _ q2 => upA_ne _ _ q2⟩
      have r1 : upA σ 8 (tkF σ B 5) 1 = σ 1 := rfl
      generalize upA σ 8 (tkF σ B 5) = ρ at *
      refine z_aload_n cx 0 dX8_cartel_26 rfl rfl ?_
      refine z_V0i cx vX8_buyer kX8_161 (c_X8_buyer hg ρ (by unfold RsH at hr; rw [r1]; exact hr)) (by decide) hM0 rfl rfl (Nat.le_of_ble_eq_true rfl) dX8_cartel_27 ?_
      rw [eW]
      refine z_istore_n cx 2 dX8_cartel_30 rfl hnL (by decide) rfl ?_
      refine z_iload_n cx 2 dX8_cartel_31 rfl rfl ?_
      refine z_iconst cx dX8_cartel_32 ic_m1 ?_
      refine z_icmp_eq (tgt := 46) cx dX8_cartel_33 (by decide) (fun c_33 => ?_) (fun c_33 => ?_)
      · refine z_iconst cx dX8_cartel_46 ic_m1 ?_
        exact z_iret cx hR ⟨_, rfl, by rw [caM, if_neg c6, if_neg c16, if_pos c_33], O2⟩ dX8_cartel_47
      · refine z_aload_n cx 0 dX8_cartel_36 rfl rfl ?_
        refine gX8_7 cx dX8_cartel_37 ?_
        refine z_iconst cx dX8_cartel_40 ic_1 ?_
        refine g_ialdN cx 1 (by decide) (fun _ => rfl) rfl (by omega) (by decide) dX8_cartel_41 ?_
        rw [r1, eB]
        refine z_iconst cx dX8_cartel_42 ic_2 ?_
        refine z_icmp_ge (tgt := 48) cx dX8_cartel_43 (by decide) (fun c_43 => ?_) (fun c_43 => ?_)
        · have c43 : ¬ B < 2 := Nat.not_lt.mpr ((nI_leI (a := 2) (by omega) (by omega)).mp c_43)
          obtain ⟨j9, hj9, ej9⟩ := (ow_rng (σ 1 4) (tbF σ B) 5).resolve_left c_33
          have ew : saW σ B = nI j9 := ej9
          refine z_aload_n cx 0 dX8_cartel_48 rfl rfl ?_
          refine z_iload_n cx 2 dX8_cartel_49 rfl rfl ?_
          refine z_aload_n cx 0 dX8_cartel_50 rfl rfl ?_
          refine gX8_7 cx dX8_cartel_51 ?_
          refine z_iconst cx dX8_cartel_54 ic_3 ?_
          refine g_ialdN cx 3 (by decide) (fun _ => rfl) rfl (by omega) (by decide) dX8_cartel_55 ?_
          rw [r1]
          rw [ew]
          refine z_V2i cx vX8_costOf kX8_167 (c_X8_costOf hg ρ hj9 _) (by decide) hM0 rfl rfl (Nat.le_of_ble_eq_true rfl) dX8_cartel_56 ?_
          rw [eY _ j9 hj9]
          refine z_istore_n cx 3 dX8_cartel_59 rfl hnL (by decide) rfl ?_
          refine z_iconst cx dX8_cartel_60 ic_m1 ?_
          refine z_istore cx dX8_cartel_61 hnL (by decide) rfl ?_
          refine z_iconst cx dX8_cartel_63 ic_0 ?_
          refine z_istore cx dX8_cartel_64 hnL (by decide) rfl ?_
          refine z_iconst cx dX8_cartel_66 ic_0 ?_
          refine z_istore cx dX8_cartel_67 hnL (by decide) rfl ?_
          exact loop j9 _ hj9 (fun v e => by rw [e, caM, if_neg c6, if_neg c16, if_neg c_33, if_neg c43, ew, toN_nI (by omega)]) (2 ^ B + 1) 0 ρ _ (by omega) (Nat.zero_le _) O2
        · have c43 : B < 2 := Nat.not_le.mp (fun z => c_43 ((nI_leI (a := 2) (by omega) (by omega)).mpr z))
          refine z_iconst cx dX8_cartel_46 ic_m1 ?_
          exact z_iret cx hR ⟨_, rfl, by rw [caM, if_neg c6, if_neg c16, if_neg c_33, if_pos c43], O2⟩ dX8_cartel_47
    · have c16 : inR (σ 1 2) (σ 1 0) = false := by rw [nit_of hM, c_16]
      refine z_bipush cx dX8_cartel_19 bi_m4 ?_
      exact z_iret cx hR ⟨_, rfl, by rw [caM, if_neg c6, if_pos c16], ⟨fun _ _ => rfl, fun _ _ _ => rfl⟩⟩ dX8_cartel_21
  · have c6 : inW w 1 = false := c_6
    refine z_bipush cx dX8_cartel_9 bi_m3 ?_
    exact z_iret cx hR ⟨_, rfl, by rw [caM, if_pos c6], ⟨fun _ _ => rfl, fun _ _ _ => rfl⟩⟩ dX8_cartel_11
