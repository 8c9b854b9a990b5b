def svM (k : Nat) (row : Nat → Int32) : Nat → Int32
  | 0 => 0
  | m + 1 => if bt5 k m = true then svM k row m + row m else svM k row m
def smG (G C : Nat → Int32) (pu : Int32) (t : Nat) : Nat → Int32 × Int32
  | 0 => (0, 0)
  | k + 1 => if (nI k &&& (nI (2 ^ t) - 1)) = 0 ∧ ¬ pu < C k ∧ ¬ G k ≤ (smG G C pu t k).1 then (G k, nI k) else smG G C pu t k
def mPr (μ : Mem) : Nat → Int32 := fun e => μ 1 (7 + 9 * e + 2)
def mGa (μ : Mem) (j : Nat) : Nat → Int32 := fun e => gnM μ j e (mPr μ e)
def smF (μ : Mem) (j t E : Nat) : Int32 × Int32 := smG (fun k => svM k (mGa μ j) E) (fun k => svM k (mPr μ) E) (μ 1 (70 + 6 * j + 3)) t (2 ^ E)
def seM (μ : Mem) (t E : Nat) (b w : Int32) : Int32 := if inR b (μ 1 1) = false then -2 else if inW w 1 = false then -3 else if w = 0 then (smF μ (toN b) t E).1 else (smF μ (toN b) t E).2
set_option maxRecDepth 100000 in
set_option maxHeartbeats 4000000 in
theorem c_X8_season {l : Launch} {g : Gx} (hg : ApG 9 g.ad) (σ : Mem) {E B t : Nat} (hM : MH σ E B t) (b w : Int32) : Ct l (OM g) 3 mX8_season [.ref (g.ad 0), .int b, .int w] σ (some (.int (seM σ t E b w))) σ := by
  refine ct_of (lv := [some (.ref (g.ad 0)), some (.int b), some (.int w), none, none, none, none, none, none, none]) (okM hg) (by decide +kernel) (Nat.le_of_ble_eq_true rfl) (fun ls h => lvh_entry h rfl 7) ?_
  intro κ hl hnL cx hR
  subst hl
  have cx : Cx κ (OM g) RX8 cX8_season 3 := cx
  have hnL : κ.nL = 10 := hnL
  have hM0 := hM
  obtain ⟨⟨hE, eE⟩, ⟨hB, eB⟩, ht, eT⟩ := hM0
  have h2E := two7 hE
  have h2t := two7 (Nat.le_trans ht hE)
  have loop : ∀ (j : Nat), j < 5 → (∀ v, v = (if w = 0 then (smF σ j t E).1 else (smF σ j t E).2) → v = seM σ t E b w) → ∀ (c k : Nat) (y6 y7 y8 y9 : Option Value), 2 ^ E + 1 ≤ k + c → k ≤ 2 ^ E → Z κ (OM g) σ 31 [some (.ref (g.ad 0)), some (.int (nI j)), some (.int w), some (.int (smG (fun k => svM k (mGa σ j) E) (fun k => svM k (mPr σ) E) (σ 1 (70 + 6 * j + 3)) t k).2), some (.int (smG (fun k => svM k (mGa σ j) E) (fun k => svM k (mPr σ) E) (σ 1 (70 + 6 * j + 3)) t k).1), some (.int (nI k)), y6, y7, y8, y9] [] := by
    intro j hj hv
    unfold smF at hv
    generalize hS : smG (fun k => svM k (mGa σ j) E) (fun k => svM k (mPr σ) E) (σ 1 (70 + 6 * j + 3)) t = S at hv
    intro c
    induction c with
    | zero => intro k y6 y7 y8 y9 h1 h2; exact absurd h1 (by omega)
    | succ c ih =>
      intro k y6 y7 y8 y9 h1 h2
      have inner : k < 2 ^ E → ∀ (d i : Nat) (y9 : Option Value), E + 1 ≤ i + d → i ≤ E → Z κ (OM g) σ 53 [some (.ref (g.ad 0)), some (.int (nI j)), some (.int w), some (.int (S k).2), some (.int (S k).1), some (.int (nI k)), some (.int (svM k (mPr σ) i)), some (.int (svM k (mGa σ j) i)), some (.int (nI i)), y9] [] := by
        intro hk d
        induction d with
        | zero => intro i y9 h1 h2; exact absurd h1 (by omega)
        | succ d ihd =>
          intro i y9 h1 h2
          refine z_iload cx dX8_season_53 rfl ?_
          refine z_aload_n cx 0 dX8_season_55 rfl rfl ?_
          refine gX8_7 cx dX8_season_56 ?_
          refine z_iconst cx dX8_season_59 ic_0 ?_
          refine g_ialdN cx 0 (by decide) (fun _ => rfl) rfl (by omega) (by decide) dX8_season_60 ?_
          rw [eE]
          refine z_icmp_ge (tgt := 133) cx dX8_season_61 (by decide) (fun c_61 => ?_) (fun c_61 => ?_)
          · have c61 := (nI_leI (by omega) (by omega)).mp c_61
            have e5 : i = E := by omega
            subst e5
            refine z_iload cx dX8_season_133 rfl ?_
            refine z_iconst cx dX8_season_135 ic_1 ?_
            refine z_aload_n cx 0 dX8_season_136 rfl rfl ?_
            refine gX8_7 cx dX8_season_137 ?_
            refine z_iconst cx dX8_season_140 ic_2 ?_
            refine g_ialdN cx 2 (by decide) (fun _ => rfl) rfl (by omega) (by decide) dX8_season_141 ?_
            rw [eT]
            refine z_ishl cx dX8_season_142 ?_
            rw [shl7 t (by omega)]
            refine z_iconst cx dX8_season_143 ic_1 ?_
            refine z_isub cx dX8_season_144 ?_
            refine z_iand cx dX8_season_145 ?_
            refine z_if_ne (tgt := 169) cx dX8_season_146 (by decide) (fun c_146 => ?_) (fun c_146 => ?_)
            · refine z_iconst cx dX8_season_169 ic_0 ?_
              refine z_istore cx dX8_season_170 hnL (by decide) rfl ?_
              refine z_iload cx dX8_season_172 rfl ?_
              refine z_if_eq (tgt := 189) cx dX8_season_174 (by decide) (fun c_174 => ?_) (fun c_174 => ?_)
              · refine z_iload_n cx 3 dX8_season_189 rfl rfl ?_
                refine z_istore_n cx 3 dX8_season_190 rfl hnL (by decide) rfl ?_
                refine z_iload cx dX8_season_191 rfl ?_
                refine z_if_eq (tgt := 208) cx dX8_season_193 (by decide) (fun c_193 => ?_) (fun c_193 => ?_)
                · refine z_iload cx dX8_season_208 rfl ?_
                  refine z_istore cx dX8_season_210 hnL (by decide) rfl ?_
                  refine z_iinc cx dX8_season_212 rfl ic_1 (nI_1 k) hnL (by decide) rfl ?_
                  refine z_goto (tgt := 31) cx dX8_season_215 (by decide) ?_
                  exact z_eq rfl (by rw [← hS, smG, hS, if_neg (fun z => c_146 z.1)]; rfl) rfl (ih (k + 1) _ _ _ _ (by omega) (by omega))
                · exact absurd rfl c_193
              · exact absurd rfl c_174
            · refine z_iload cx dX8_season_149 rfl ?_
              refine z_aload_n cx 0 dX8_season_151 rfl rfl ?_
              refine gX8_7 cx dX8_season_152 ?_
              refine z_iload_n cx 1 dX8_season_155 rfl rfl ?_
              refine z_S1i cx sX8_bidderAt kX8_105 (c_X8_bidderAt hg _ j) (by decide) (Nat.le_of_ble_eq_true rfl) dX8_season_156 ?_
              refine z_iconst cx dX8_season_159 ic_3 ?_
              refine z_iadd cx dX8_season_160 ?_
              refine g_ialdN cx (70 + 6 * j + 3) (by decide) (fun _ => rfl) (nI_add _ 3) (by omega) (by decide) dX8_season_161 ?_
              refine z_icmp_gt (tgt := 169) cx dX8_season_162 (by decide) (fun c_162 => ?_) (fun c_162 => ?_)
              · refine z_iconst cx dX8_season_169 ic_0 ?_
                refine z_istore cx dX8_season_170 hnL (by decide) rfl ?_
                refine z_iload cx dX8_season_172 rfl ?_
                refine z_if_eq (tgt := 189) cx dX8_season_174 (by decide) (fun c_174 => ?_) (fun c_174 => ?_)
                · refine z_iload_n cx 3 dX8_season_189 rfl rfl ?_
                  refine z_istore_n cx 3 dX8_season_190 rfl hnL (by decide) rfl ?_
                  refine z_iload cx dX8_season_191 rfl ?_
                  refine z_if_eq (tgt := 208) cx dX8_season_193 (by decide) (fun c_193 => ?_) (fun c_193 => ?_)
                  · refine z_iload cx dX8_season_208 rfl ?_
                    refine z_istore cx dX8_season_210 hnL (by decide) rfl ?_
                    refine z_iinc cx dX8_season_212 rfl ic_1 (nI_1 k) hnL (by decide) rfl ?_
                    refine z_goto (tgt := 31) cx dX8_season_215 (by decide) ?_
                    exact z_eq rfl (by rw [← hS, smG, hS, if_neg (fun z => z.2.1 c_162)]; rfl) rfl (ih (k + 1) _ _ _ _ (by omega) (by omega))
                  · exact absurd rfl c_193
                · exact absurd rfl c_174
              · refine z_iconst cx dX8_season_165 ic_1 ?_
                refine z_goto (tgt := 170) cx dX8_season_166 (by decide) ?_
                refine z_istore cx dX8_season_170 hnL (by decide) rfl ?_
                refine z_iload cx dX8_season_172 rfl ?_
                refine z_if_eq (tgt := 189) cx dX8_season_174 (by decide) (fun c_174 => ?_) (fun c_174 => ?_)
                · exact absurd c_174 (by decide)
                · refine z_iload cx dX8_season_177 rfl ?_
                  refine z_iload cx dX8_season_179 rfl ?_
                  refine z_icmp_le (tgt := 189) cx dX8_season_181 (by decide) (fun c_181 => ?_) (fun c_181 => ?_)
                  · refine z_iload_n cx 3 dX8_season_189 rfl rfl ?_
                    refine z_istore_n cx 3 dX8_season_190 rfl hnL (by decide) rfl ?_
                    refine z_iload cx dX8_season_191 rfl ?_
                    refine z_if_eq (tgt := 208) cx dX8_season_193 (by decide) (fun c_193 => ?_) (fun c_193 => ?_)
                    · exact absurd c_193 (by decide)
                    · refine z_iload cx dX8_season_196 rfl ?_
                      refine z_iload cx dX8_season_198 rfl ?_
                      refine z_icmp_le (tgt := 208) cx dX8_season_200 (by decide) (fun c_200 => ?_) (fun c_200 => ?_)
                      · refine z_iload cx dX8_season_208 rfl ?_
                        refine z_istore cx dX8_season_210 hnL (by decide) rfl ?_
                        refine z_iinc cx dX8_season_212 rfl ic_1 (nI_1 k) hnL (by decide) rfl ?_
                        refine z_goto (tgt := 31) cx dX8_season_215 (by decide) ?_
                        exact z_eq rfl (by rw [← hS, smG, hS, if_neg (fun z => z.2.2 c_181)]; rfl) rfl (ih (k + 1) _ _ _ _ (by omega) (by omega))
                      · exact absurd c_181 c_200
                  · refine z_iload cx dX8_season_184 rfl ?_
                    refine z_goto (tgt := 190) cx dX8_season_186 (by decide) ?_
                    refine z_istore_n cx 3 dX8_season_190 rfl hnL (by decide) rfl ?_
                    refine z_iload cx dX8_season_191 rfl ?_
                    refine z_if_eq (tgt := 208) cx dX8_season_193 (by decide) (fun c_193 => ?_) (fun c_193 => ?_)
                    · exact absurd c_193 (by decide)
                    · refine z_iload cx dX8_season_196 rfl ?_
                      refine z_iload cx dX8_season_198 rfl ?_
                      refine z_icmp_le (tgt := 208) cx dX8_season_200 (by decide) (fun c_200 => ?_) (fun c_200 => ?_)
                      · exact absurd c_200 c_181
                      · refine z_iload cx dX8_season_203 rfl ?_
                        refine z_goto (tgt := 210) cx dX8_season_205 (by decide) ?_
                        refine z_istore cx dX8_season_210 hnL (by decide) rfl ?_
                        refine z_iinc cx dX8_season_212 rfl ic_1 (nI_1 k) hnL (by decide) rfl ?_
                        refine z_goto (tgt := 31) cx dX8_season_215 (by decide) ?_
                        exact z_eq rfl (by rw [← hS, smG, hS, if_pos ⟨c_146, c_162, c_181⟩]; rfl) rfl (ih (k + 1) _ _ _ _ (by omega) (by omega))
          · have c61 : ¬ E ≤ i := fun z => c_61 ((nI_leI (by omega) (by omega)).mpr z)
            refine z_aload_n cx 0 dX8_season_64 rfl rfl ?_
            refine gX8_7 cx dX8_season_65 ?_
            refine z_iload cx dX8_season_68 rfl ?_
            refine z_S1i cx sX8_eveningAt kX8_98 (c_X8_eveningAt hg _ i) (by decide) (Nat.le_of_ble_eq_true rfl) dX8_season_70 ?_
            refine z_iconst cx dX8_season_73 ic_2 ?_
            refine z_iadd cx dX8_season_74 ?_
            refine g_ialdN cx (7 + 9 * i + 2) (by decide) (fun _ => rfl) (nI_add _ 2) (by omega) (by decide) dX8_season_75 ?_
            refine z_istore cx dX8_season_76 hnL (by decide) rfl ?_
            refine z_iload cx dX8_season_78 rfl ?_
            refine z_iload cx dX8_season_80 rfl ?_
            refine z_iload cx dX8_season_82 rfl ?_
            refine z_S2i cx sX8_has kX8_193 (c_X8_has hg _ k i) (by decide) (Nat.le_of_ble_eq_true rfl) dX8_season_84 ?_
            refine z_ifb_eq (tgt := 95) cx dX8_season_87 (by decide) (fun c_87 => ?_) (fun c_87 => ?_)
            · refine z_iconst cx dX8_season_95 ic_0 ?_
              refine z_iadd cx dX8_season_96 ?_
              rw [Int32.add_zero]
              refine z_istore cx dX8_season_97 hnL (by decide) rfl ?_
              refine z_iload cx dX8_season_99 rfl ?_
              refine z_iload cx dX8_season_101 rfl ?_
              refine z_iload cx dX8_season_103 rfl ?_
              refine z_S2i cx sX8_has kX8_193 (c_X8_has hg _ k i) (by decide) (Nat.le_of_ble_eq_true rfl) dX8_season_105 ?_
              refine z_ifb_eq (tgt := 123) cx dX8_season_108 (by decide) (fun c_108 => ?_) (fun c_108 => ?_)
              · refine z_iconst cx dX8_season_123 ic_0 ?_
                refine z_iadd cx dX8_season_124 ?_
                rw [Int32.add_zero]
                refine z_istore cx dX8_season_125 hnL (by decide) rfl ?_
                refine z_iinc cx dX8_season_127 rfl ic_1 (nI_1 i) hnL (by decide) rfl ?_
                refine z_goto (tgt := 53) cx dX8_season_130 (by decide) ?_
                exact z_eq rfl (by rw [svM, svM, if_neg (by rw [c_87]; decide), if_neg (by rw [c_87]; decide)]; rfl) rfl (ihd (i + 1) _ (by omega) (by omega))
              · exact absurd (c_87.symm.trans c_108) (by decide)
            · refine z_iload cx dX8_season_90 rfl ?_
              refine z_goto (tgt := 96) cx dX8_season_92 (by decide) ?_
              refine z_iadd cx dX8_season_96 ?_
              refine z_istore cx dX8_season_97 hnL (by decide) rfl ?_
              refine z_iload cx dX8_season_99 rfl ?_
              refine z_iload cx dX8_season_101 rfl ?_
              refine z_iload cx dX8_season_103 rfl ?_
              refine z_S2i cx sX8_has kX8_193 (c_X8_has hg _ k i) (by decide) (Nat.le_of_ble_eq_true rfl) dX8_season_105 ?_
              refine z_ifb_eq (tgt := 123) cx dX8_season_108 (by decide) (fun c_108 => ?_) (fun c_108 => ?_)
              · exact absurd (c_87.symm.trans c_108) (by decide)
              · refine z_aload_n cx 0 dX8_season_111 rfl rfl ?_
                refine z_iload_n cx 1 dX8_season_112 rfl rfl ?_
                refine z_iload cx dX8_season_113 rfl ?_
                refine z_iload cx dX8_season_115 rfl ?_
                refine z_V3i cx vX8_gainOf kX8_174 (c_X8_gainOf hg σ hj (i := i) (by omega) _) (by decide) hM0 rfl rfl (Nat.le_of_ble_eq_true rfl) dX8_season_117 ?_
                refine z_goto (tgt := 124) cx dX8_season_120 (by decide) ?_
                refine z_iadd cx dX8_season_124 ?_
                refine z_istore cx dX8_season_125 hnL (by decide) rfl ?_
                refine z_iinc cx dX8_season_127 rfl ic_1 (nI_1 i) hnL (by decide) rfl ?_
                refine z_goto (tgt := 53) cx dX8_season_130 (by decide) ?_
                exact z_eq rfl (by rw [svM, svM, if_pos c_87, if_pos c_87]; rfl) rfl (ihd (i + 1) _ (by omega) (by omega))
      refine z_iload cx dX8_season_31 rfl ?_
      refine z_iconst cx dX8_season_33 ic_1 ?_
      refine z_aload_n cx 0 dX8_season_34 rfl rfl ?_
      refine gX8_7 cx dX8_season_35 ?_
      refine z_iconst cx dX8_season_38 ic_0 ?_
      refine g_ialdN cx 0 (by decide) (fun _ => rfl) rfl (by omega) (by decide) dX8_season_39 ?_
      rw [eE]
      refine z_ishl cx dX8_season_40 ?_
      rw [shl7 E hE]
      refine z_icmp_ge (tgt := 218) cx dX8_season_41 (by decide) (fun c_41 => ?_) (fun c_41 => ?_)
      · have c41 := (nI_leI (by omega) (by omega)).mp c_41
        have e5 : k = 2 ^ E := by omega
        subst e5
        refine z_iload_n cx 2 dX8_season_218 rfl rfl ?_
        refine z_if_ne (tgt := 227) cx dX8_season_219 (by decide) (fun c_219 => ?_) (fun c_219 => ?_)
        · refine z_iload_n cx 3 dX8_season_227 rfl rfl ?_
          exact z_iret cx hR ⟨congrArg (fun x => some (Value.int x)) (hv _ (by rw [if_neg c_219])), rfl⟩ dX8_season_228
        · refine z_iload cx dX8_season_222 rfl ?_
          refine z_goto (tgt := 228) cx dX8_season_224 (by decide) ?_
          exact z_iret cx hR ⟨congrArg (fun x => some (Value.int x)) (hv _ (by rw [if_pos c_219])), rfl⟩ dX8_season_228
      · have c41 : ¬ 2 ^ E ≤ k := fun z => c_41 ((nI_leI (by omega) (by omega)).mpr z)
        refine z_iconst cx dX8_season_44 ic_0 ?_
        refine z_istore cx dX8_season_45 hnL (by decide) rfl ?_
        refine z_iconst cx dX8_season_47 ic_0 ?_
        refine z_istore cx dX8_season_48 hnL (by decide) rfl ?_
        refine z_iconst cx dX8_season_50 ic_0 ?_
        refine z_istore cx dX8_season_51 hnL (by decide) rfl ?_
        exact inner (by omega) (E + 1) 0 _ (by omega) (by omega)
  refine z_aload_n cx 0 dX8_season_0 rfl rfl ?_
  refine z_iload_n cx 1 dX8_season_1 rfl rfl ?_
  refine z_V1i cx vX8_isBidder kX8_131 (c_X8_isBidder hg σ (by omega) eB _) (by decide) hM0 rfl rfl (Nat.le_of_ble_eq_true rfl) dX8_season_2 ?_
  refine z_ifb_ne (tgt := 11) cx dX8_season_5 (by decide) (fun c_5 => ?_) (fun c_5 => ?_)
  · obtain ⟨j, hj, rfl⟩ := inR_of c_5 (by omega)
    have ej : toN (nI j) = j := toN_nI (by omega)
    have c5 : ¬ inR (nI j) (σ 1 1) = false := by rw [eB, c_5]; decide
    refine z_iload_n cx 2 dX8_season_11 rfl rfl ?_
    refine z_iconst cx dX8_season_12 ic_0 ?_
    refine z_iconst cx dX8_season_13 ic_1 ?_
    refine z_S3i cx sX8_in kX8_35 (c_X8_in hg σ _ _ _) (by decide) (Nat.le_of_ble_eq_true rfl) dX8_season_14 ?_
    refine z_ifb_ne (tgt := 23) cx dX8_season_17 (by decide) (fun c_17 => ?_) (fun c_17 => ?_)
    · have c17 : ¬ inW w 1 = false := by rw [show inW w 1 = true from c_17]; decide
      refine z_iconst cx dX8_season_23 ic_0 ?_
      refine z_istore_n cx 3 dX8_season_24 rfl hnL (by decide) rfl ?_
      refine z_iconst cx dX8_season_25 ic_0 ?_
      refine z_istore cx dX8_season_26 hnL (by decide) rfl ?_
      refine z_iconst cx dX8_season_28 ic_0 ?_
      refine z_istore cx dX8_season_29 hnL (by decide) rfl ?_
      exact loop j (by omega) (fun v e => by rw [e, seM, if_neg c5, if_neg c17, ej]) (2 ^ E + 1) 0 _ _ _ _ (by omega) (Nat.zero_le _)
    · have c17 : inW w 1 = false := c_17
      refine z_bipush cx dX8_season_20 bi_m3 ?_
      exact z_iret cx hR ⟨by rw [seM, if_neg c5, if_pos c17], rfl⟩ dX8_season_22
  · refine z_bipush cx dX8_season_8 bi_m2 ?_
    exact z_iret cx hR ⟨by rw [seM, eB, if_pos c_5], rfl⟩ dX8_season_10
def cnb (k : Nat) : Nat → Nat
  | 0 => 0
  | i + 1 => if bt5 k i = true then cnb k i + 1 else cnb k i
theorem cnb_le (k : Nat) : ∀ i, cnb k i ≤ i
  | 0 => Nat.le_refl 0
  | i + 1 => by have := cnb_le k i; simp only [cnb]; split <;> omega
def wyM (ch : Nat → Int32) (t E k : Nat) : Nat → Int32
  | 0 => 1
  | i + 1 => wyM ch t E k i * (if t ≤ i ∧ i < E then (if bt5 k i = true then ch i else 10 - ch i) else (if bt5 k i = true then 0 else 1))
def abM (ch : Nat → Int32) (t E k : Nat) : Nat → Int32
  | 0 => 0
  | s + 1 => abM ch t E k s + (if k ≤ cnb s 7 then wyM ch t E s 7 else 0)
def mCh (μ : Mem) : Nat → Int32 := fun e => μ 1 (7 + 9 * e + 1)
def gdM (μ : Mem) (t E k : Nat) : Nat := toN (abM (mCh μ) t E k 128)
def brM (μ : Mem) (t E : Nat) (k p : Int32) : Int32 := if inW k 7 = false then -3 else if inW p 1 = false then -3 else if p = 0 then nI (gdM μ t E (toN k) / Nat.gcd (10 ^ (E - t)) (gdM μ t E (toN k))) else nI (10 ^ (E - t) / Nat.gcd (10 ^ (E - t)) (gdM μ t E (toN k)))
theorem inL_to {i t E : Nat} (hi : i < 2 ^ 31) (ht : t < 2 ^ 31) (hE : E < 2 ^ 31) : inL (nI i) (nI t) (nI E - 1) = decide (t ≤ i ∧ i < E) := by
  have e1 : inW (nI i) (nI E - 1) = decide (i < E) := by rw [inW_pred hE, inR_nI hi hE]
  unfold inL
  unfold inW at e1
  rw [decide_eq_false (nI_pos hi), Bool.not_false, Bool.true_and] at e1
  rw [e1]
  have e2 := nI_ltI hi ht
  by_cases q : t ≤ i
  · rw [decide_eq_false (fun z => absurd (e2.mp z) (by omega))]; simp [q]
  · rw [decide_eq_true (e2.mpr (by omega))]; simp [q]
set_option maxRecDepth 100000 in
set_option maxHeartbeats 4000000 in
theorem c_X8_bright {l : Launch} {g : Gx} (hg : ApG 9 g.ad) (σ : Mem) {E B t : Nat} (hM : MH σ E B t) (hG : ∀ k, k ≤ 7 → ∃ gd, gd < 2 ^ 31 ∧ abM (mCh σ) t E k 128 = nI gd) (k p : Int32) : Ct l (OM g) 2 mX8_bright [.ref (g.ad 0), .int k, .int p] σ (some (.int (brM σ t E k p))) σ := by
  refine ct_of (lv := [some (.ref (g.ad 0)), some (.int k), some (.int p), none, none, none, none, none, none, none, none]) (okM hg) (by decide +kernel) (Nat.le_of_ble_eq_true rfl) (fun ls h => lvh_entry h rfl 8) ?_
  intro κ hl hnL cx hR
  subst hl
  have cx : Cx κ (OM g) RX8 cX8_bright 2 := cx
  have hnL : κ.nL = 11 := hnL
  have hM0 := hM
  obtain ⟨⟨hE, eE⟩, ⟨hB, eB⟩, ht, eT⟩ := hM0
  have h10 : ∀ m, m ≤ 7 → 1 ≤ 10 ^ m ∧ 10 ^ m ≤ 10000000 := by decide
  have hten := h10 (E - t) (by omega)
  have euk : ∀ (y : Nat) (kk : Nat) (gd x : Nat) (y7 y8 y9 y10 : Option Value), gd < 2 ^ 31 → x < 2 ^ 31 → y < 2 ^ 31 → Nat.gcd x y = Nat.gcd (10 ^ (E - t)) gd → (∀ v, v = (if p = 0 then nI (gd / Nat.gcd (10 ^ (E - t)) gd) else nI (10 ^ (E - t) / Nat.gcd (10 ^ (E - t)) gd)) → v = brM σ t E k p) → Z κ (OM g) σ 223 [some (.ref (g.ad 0)), some (.int (nI kk)), some (.int p), some (.int (nI gd)), some (.int (nI (10 ^ (E - t)))), some (.int (nI x)), some (.int (nI y)), y7, y8, y9, y10] [] := by
    intro y
    induction y using Nat.strongRecOn with
    | ind y ih =>
      intro kk gd x y7 y8 y9 y10 h1 h2 h3 h4 hv
      have hG1 : 1 ≤ Nat.gcd (10 ^ (E - t)) gd := Nat.gcd_pos_of_pos_left _ hten.1
      have hG3 : Nat.gcd (10 ^ (E - t)) gd ≤ 10 ^ (E - t) := Nat.gcd_le_left _ hten.1
      refine z_iload cx dX8_bright_223 rfl ?_
      refine z_if_eq (tgt := 246) cx dX8_bright_225 (by decide) (fun c_225 => ?_) (fun c_225 => ?_)
      · have y0 : y = 0 := (nI_eq (b := 0) h3 (by decide)).mp c_225
        subst y0
        rw [Nat.gcd_zero_right] at h4
        subst h4
        refine z_iload_n cx 2 dX8_bright_246 rfl rfl ?_
        refine z_if_ne (tgt := 254) cx dX8_bright_247 (by decide) (fun c_247 => ?_) (fun c_247 => ?_)
        · refine z_iload cx dX8_bright_254 rfl ?_
          refine z_iload cx dX8_bright_256 rfl ?_
          refine z_idiv cx dX8_bright_258 (nI_ne0 (by omega) (by omega)) ?_
          rw [pk_div (by omega) (by omega) (by omega)]
          exact z_iret cx hR ⟨congrArg (fun x => some (Value.int x)) (hv _ (by rw [if_neg c_247])), rfl⟩ dX8_bright_259
        · refine z_iload_n cx 3 dX8_bright_250 rfl rfl ?_
          refine z_goto (tgt := 256) cx dX8_bright_251 (by decide) ?_
          refine z_iload cx dX8_bright_256 rfl ?_
          refine z_idiv cx dX8_bright_258 (nI_ne0 (by omega) (by omega)) ?_
          rw [pk_div h1 (by omega) (by omega)]
          exact z_iret cx hR ⟨congrArg (fun x => some (Value.int x)) (hv _ (by rw [if_pos c_247])), rfl⟩ dX8_bright_259
      · have y0 : ¬ y = 0 := fun z => c_225 (by rw [z]; rfl)
        refine z_iload cx dX8_bright_228 rfl ?_
        refine z_iload cx dX8_bright_230 rfl ?_
        refine z_irem cx dX8_bright_232 c_225 ?_
        rw [pk_rem h2 (by omega) h3]
        refine z_istore cx dX8_bright_233 hnL (by decide) rfl ?_
        refine z_iload cx dX8_bright_235 rfl ?_
        refine z_istore cx dX8_bright_237 hnL (by decide) rfl ?_
        refine z_iload cx dX8_bright_239 rfl ?_
        refine z_istore cx dX8_bright_241 hnL (by decide) rfl ?_
        refine z_goto (tgt := 223) cx dX8_bright_243 (by decide) ?_
        exact ih (x % y) (Nat.mod_lt _ (by omega)) kk gd y _ _ _ _ h1 h3 (Nat.lt_trans (Nat.mod_lt _ (by omega)) h3) (by rw [← h4, Nat.gcd_comm x y, Nat.gcd_rec y x, Nat.gcd_comm]) hv
  have loop : ∀ (kk gd : Nat), kk ≤ 7 → gd < 2 ^ 31 → abM (mCh σ) t E kk 128 = nI gd → (∀ v, v = (if p = 0 then nI (gd / Nat.gcd (10 ^ (E - t)) gd) else nI (10 ^ (E - t) / Nat.gcd (10 ^ (E - t)) gd)) → v = brM σ t E k p) → ∀ (c s : Nat) (y6 y7 y8 y9 y10 : Option Value), 128 + 1 ≤ s + c → s ≤ 128 → Z κ (OM g) σ 62 [some (.ref (g.ad 0)), some (.int (nI kk)), some (.int p), some (.int (abM (mCh σ) t E kk s)), some (.int (nI (10 ^ (E - t)))), some (.int (nI s)), y6, y7, y8, y9, y10] [] := by
    intro kk gd hk hg2 hgd hv c
    induction c with
    | zero => intro s y6 y7 y8 y9 y10 h1 h2; exact absurd h1 (by omega)
    | succ c ih =>
      intro s y6 y7 y8 y9 y10 h1 h2
      have inner : s < 128 → ∀ (d i : Nat) (y9 y10 : Option Value), 7 + 1 ≤ i + d → i ≤ 7 → Z κ (OM g) σ 79 [some (.ref (g.ad 0)), some (.int (nI kk)), some (.int p), some (.int (abM (mCh σ) t E kk s)), some (.int (nI (10 ^ (E - t)))), some (.int (nI s)), some (.int (wyM (mCh σ) t E s i)), some (.int (nI (cnb s i))), some (.int (nI i)), y9, y10] [] := by
        intro hs d
        induction d with
        | zero => intro i y9 y10 h1 h2; exact absurd h1 (by omega)
        | succ d ihd =>
          intro i y9 y10 h1 h2
          refine z_iload cx dX8_bright_79 rfl ?_
          refine z_bipush cx dX8_bright_81 bi_7 ?_
          refine z_icmp_ge (tgt := 195) cx dX8_bright_83 (by decide) (fun c_83 => ?_) (fun c_83 => ?_)
          · have c83 := (nI_leI (a := 7) (by omega) (by omega)).mp c_83
            have e5 : i = 7 := by omega
            subst e5
            refine z_iload_n cx 3 dX8_bright_195 rfl rfl ?_
            refine z_iload cx dX8_bright_196 rfl ?_
            refine z_iload_n cx 1 dX8_bright_198 rfl rfl ?_
            refine z_icmp_lt (tgt := 207) cx dX8_bright_199 (by decide) (fun c_199 => ?_) (fun c_199 => ?_)
            · have c99 : ¬ kk ≤ cnb s 7 := fun z => absurd ((nI_ltI (by have := cnb_le s 7; omega) (by omega)).mp c_199) (by omega)
              refine z_iconst cx dX8_bright_207 ic_0 ?_
              refine z_iadd cx dX8_bright_208 ?_
              refine z_istore_n cx 3 dX8_bright_209 rfl hnL (by decide) rfl ?_
              refine z_iinc cx dX8_bright_210 rfl ic_1 (nI_1 s) hnL (by decide) rfl ?_
              refine z_goto (tgt := 62) cx dX8_bright_213 (by decide) ?_
              exact z_eq rfl (by rw [abM, if_neg c99]; rfl) rfl (ih (s + 1) _ _ _ _ _ (by omega) (by omega))
            · have c99 : kk ≤ cnb s 7 := Nat.not_lt.mp (fun z => c_199 ((nI_ltI (by have := cnb_le s 7; omega) (by omega)).mpr z))
              refine z_iload cx dX8_bright_202 rfl ?_
              refine z_goto (tgt := 208) cx dX8_bright_204 (by decide) ?_
              refine z_iadd cx dX8_bright_208 ?_
              refine z_istore_n cx 3 dX8_bright_209 rfl hnL (by decide) rfl ?_
              refine z_iinc cx dX8_bright_210 rfl ic_1 (nI_1 s) hnL (by decide) rfl ?_
              refine z_goto (tgt := 62) cx dX8_bright_213 (by decide) ?_
              exact z_eq rfl (by rw [abM, if_pos c99]; rfl) rfl (ih (s + 1) _ _ _ _ _ (by omega) (by omega))
          · have c83 : ¬ 7 ≤ i := fun z => c_83 ((nI_leI (a := 7) (by omega) (by omega)).mpr z)
            refine z_iload cx dX8_bright_86 rfl ?_
            refine z_aload_n cx 0 dX8_bright_88 rfl rfl ?_
            refine gX8_7 cx dX8_bright_89 ?_
            refine z_iconst cx dX8_bright_92 ic_2 ?_
            refine g_ialdN cx 2 (by decide) (fun _ => rfl) rfl (by omega) (by decide) dX8_bright_93 ?_
            rw [eT]
            refine z_aload_n cx 0 dX8_bright_94 rfl rfl ?_
            refine gX8_7 cx dX8_bright_95 ?_
            refine z_iconst cx dX8_bright_98 ic_0 ?_
            refine g_ialdN cx 0 (by decide) (fun _ => rfl) rfl (by omega) (by decide) dX8_bright_99 ?_
            rw [eE]
            refine z_iconst cx dX8_bright_100 ic_1 ?_
            refine z_isub cx dX8_bright_101 ?_
            refine z_S3i cx sX8_in kX8_35 (c_X8_in hg σ _ _ _) (by decide) (Nat.le_of_ble_eq_true rfl) dX8_bright_102 ?_
            rw [inL_to (by omega) (by omega) (by omega)]
            refine z_istore cx dX8_bright_105 hnL (by decide) rfl ?_
            refine z_aload_n cx 0 dX8_bright_107 rfl rfl ?_
            refine gX8_7 cx dX8_bright_108 ?_
            refine z_iload cx dX8_bright_111 rfl ?_
            refine z_S1i cx sX8_eveningAt kX8_98 (c_X8_eveningAt hg _ i) (by decide) (Nat.le_of_ble_eq_true rfl) dX8_bright_113 ?_
            refine z_iconst cx dX8_bright_116 ic_1 ?_
            refine z_iadd cx dX8_bright_117 ?_
            refine g_ialdN cx (7 + 9 * i + 1) (by decide) (fun _ => rfl) (nI_add _ 1) (by omega) (by decide) dX8_bright_118 ?_
            refine z_istore cx dX8_bright_119 hnL (by decide) rfl ?_
            refine z_iload cx dX8_bright_121 rfl ?_
            refine z_iload cx dX8_bright_123 rfl ?_
            refine z_iload cx dX8_bright_125 rfl ?_
            refine z_S2i cx sX8_has kX8_193 (c_X8_has hg _ s i) (by decide) (Nat.le_of_ble_eq_true rfl) dX8_bright_127 ?_
            refine z_ifb_eq (tgt := 137) cx dX8_bright_130 (by decide) (fun c_130 => ?_) (fun c_130 => ?_)
            · refine z_iconst cx dX8_bright_137 ic_0 ?_
              refine z_iadd cx dX8_bright_138 ?_
              rw [show nI (cnb s i) + 0 = nI (cnb s i) from nI_add _ 0]
              refine z_istore cx dX8_bright_139 hnL (by decide) rfl ?_
              refine z_iload cx dX8_bright_141 rfl ?_
              refine z_iload cx dX8_bright_143 rfl ?_
              refine z_ifb_eq (tgt := 171) cx dX8_bright_145 (by decide) (fun c_145 => ?_) (fun c_145 => ?_)
              · have c45 : ¬ (t ≤ i ∧ i < E) := of_decide_eq_false c_145
                refine z_iload cx dX8_bright_171 rfl ?_
                refine z_iload cx dX8_bright_173 rfl ?_
                refine z_S2i cx sX8_has kX8_193 (c_X8_has hg _ s i) (by decide) (Nat.le_of_ble_eq_true rfl) dX8_bright_175 ?_
                refine z_ifb_eq (tgt := 185) cx dX8_bright_178 (by decide) (fun c_178 => ?_) (fun c_178 => ?_)
                · refine z_iconst cx dX8_bright_185 ic_1 ?_
                  refine z_imul cx dX8_bright_186 ?_
                  refine z_istore cx dX8_bright_187 hnL (by decide) rfl ?_
                  refine z_iinc cx dX8_bright_189 rfl ic_1 (nI_1 i) hnL (by decide) rfl ?_
                  refine z_goto (tgt := 79) cx dX8_bright_192 (by decide) ?_
                  exact z_eq rfl (by rw [wyM, cnb, if_neg c45, if_neg (by rw [c_130]; decide), if_neg (by rw [c_130]; decide)]; rfl) rfl (ihd (i + 1) _ _ (by omega) (by omega))
                · exact absurd (c_130.symm.trans c_178) (by decide)
              · have c45 : t ≤ i ∧ i < E := of_decide_eq_true c_145
                refine z_iload cx dX8_bright_148 rfl ?_
                refine z_iload cx dX8_bright_150 rfl ?_
                refine z_S2i cx sX8_has kX8_193 (c_X8_has hg _ s i) (by decide) (Nat.le_of_ble_eq_true rfl) dX8_bright_152 ?_
                refine z_ifb_eq (tgt := 163) cx dX8_bright_155 (by decide) (fun c_155 => ?_) (fun c_155 => ?_)
                · refine z_bipush cx dX8_bright_163 bi_10 ?_
                  refine z_iload cx dX8_bright_165 rfl ?_
                  refine z_isub cx dX8_bright_167 ?_
                  refine z_goto (tgt := 186) cx dX8_bright_168 (by decide) ?_
                  refine z_imul cx dX8_bright_186 ?_
                  refine z_istore cx dX8_bright_187 hnL (by decide) rfl ?_
                  refine z_iinc cx dX8_bright_189 rfl ic_1 (nI_1 i) hnL (by decide) rfl ?_
                  refine z_goto (tgt := 79) cx dX8_bright_192 (by decide) ?_
                  exact z_eq rfl (by rw [wyM, cnb, if_pos c45, if_neg (by rw [c_130]; decide), if_neg (by rw [c_130]; decide)]; rfl) rfl (ihd (i + 1) _ _ (by omega) (by omega))
                · exact absurd (c_130.symm.trans c_155) (by decide)
            · refine z_iconst cx dX8_bright_133 ic_1 ?_
              refine z_goto (tgt := 138) cx dX8_bright_134 (by decide) ?_
              refine z_iadd cx dX8_bright_138 ?_
              rw [nI_1]
              refine z_istore cx dX8_bright_139 hnL (by decide) rfl ?_
              refine z_iload cx dX8_bright_141 rfl ?_
              refine z_iload cx dX8_bright_143 rfl ?_
              refine z_ifb_eq (tgt := 171) cx dX8_bright_145 (by decide) (fun c_145 => ?_) (fun c_145 => ?_)
              · have c45 : ¬ (t ≤ i ∧ i < E) := of_decide_eq_false c_145
                refine z_iload cx dX8_bright_171 rfl ?_
                refine z_iload cx dX8_bright_173 rfl ?_
                refine z_S2i cx sX8_has kX8_193 (c_X8_has hg _ s i) (by decide) (Nat.le_of_ble_eq_true rfl) dX8_bright_175 ?_
                refine z_ifb_eq (tgt := 185) cx dX8_bright_178 (by decide) (fun c_178 => ?_) (fun c_178 => ?_)
                · exact absurd (c_130.symm.trans c_178) (by decide)
                · refine z_iconst cx dX8_bright_181 ic_0 ?_
                  refine z_goto (tgt := 186) cx dX8_bright_182 (by decide) ?_
                  refine z_imul cx dX8_bright_186 ?_
                  refine z_istore cx dX8_bright_187 hnL (by decide) rfl ?_
                  refine z_iinc cx dX8_bright_189 rfl ic_1 (nI_1 i) hnL (by decide) rfl ?_
                  refine z_goto (tgt := 79) cx dX8_bright_192 (by decide) ?_
                  exact z_eq rfl (by rw [wyM, cnb, if_neg c45, if_pos c_130, if_pos c_130]; rfl) rfl (ihd (i + 1) _ _ (by omega) (by omega))
              · have c45 : t ≤ i ∧ i < E := of_decide_eq_true c_145
                refine z_iload cx dX8_bright_148 rfl ?_
                refine z_iload cx dX8_bright_150 rfl ?_
                refine z_S2i cx sX8_has kX8_193 (c_X8_has hg _ s i) (by decide) (Nat.le_of_ble_eq_true rfl) dX8_bright_152 ?_
                refine z_ifb_eq (tgt := 163) cx dX8_bright_155 (by decide) (fun c_155 => ?_) (fun c_155 => ?_)
                · exact absurd (c_130.symm.trans c_155) (by decide)
                · refine z_iload cx dX8_bright_158 rfl ?_
                  refine z_goto (tgt := 186) cx dX8_bright_160 (by decide) ?_
                  refine z_imul cx dX8_bright_186 ?_
                  refine z_istore cx dX8_bright_187 hnL (by decide) rfl ?_
                  refine z_iinc cx dX8_bright_189 rfl ic_1 (nI_1 i) hnL (by decide) rfl ?_
                  refine z_goto (tgt := 79) cx dX8_bright_192 (by decide) ?_
                  exact z_eq rfl (by rw [wyM, cnb, if_pos c45, if_pos c_130, if_pos c_130]; rfl) rfl (ihd (i + 1) _ _ (by omega) (by omega))
      refine z_iload cx dX8_bright_62 rfl ?_
      refine z_sipush cx dX8_bright_64 si_128 ?_
      refine z_icmp_ge (tgt := 216) cx dX8_bright_67 (by decide) (fun c_67 => ?_) (fun c_67 => ?_)
      · have c67 := (nI_leI (a := 128) (by omega) (by omega)).mp c_67
        have e5 : s = 128 := by omega
        subst e5
        rw [hgd]
        refine z_iload_n cx 3 dX8_bright_216 rfl rfl ?_
        refine z_istore cx dX8_bright_217 hnL (by decide) rfl ?_
        refine z_iload cx dX8_bright_219 rfl ?_
        refine z_istore cx dX8_bright_221 hnL (by decide) rfl ?_
        exact euk _ kk gd gd _ _ _ _ hg2 hg2 (by omega) (Nat.gcd_comm _ _) hv
      · have c67 : ¬ 128 ≤ s := fun z => c_67 ((nI_leI (a := 128) (by omega) (by omega)).mpr z)
        refine z_iconst cx dX8_bright_70 ic_1 ?_
        refine z_istore cx dX8_bright_71 hnL (by decide) rfl ?_
        refine z_iconst cx dX8_bright_73 ic_0 ?_
        refine z_istore cx dX8_bright_74 hnL (by decide) rfl ?_
        refine z_iconst cx dX8_bright_76 ic_0 ?_
        refine z_istore cx dX8_bright_77 hnL (by decide) rfl ?_
        exact inner (by omega) 8 0 _ _ (by omega) (by omega)
  have loop1 : ∀ (kk gd : Nat), kk ≤ 7 → gd < 2 ^ 31 → abM (mCh σ) t E kk 128 = nI gd → (∀ v, v = (if p = 0 then nI (gd / Nat.gcd (10 ^ (E - t)) gd) else nI (10 ^ (E - t) / Nat.gcd (10 ^ (E - t)) gd)) → v = brM σ t E k p) → ∀ (c m : Nat), E - t + 1 ≤ m + c → m ≤ E - t → Z κ (OM g) σ 35 [some (.ref (g.ad 0)), some (.int (nI kk)), some (.int p), some (.int 0), some (.int (nI (10 ^ m))), some (.int (nI (t + m))), none, none, none, none, none] [] := by
    intro kk gd hk hg2 hgd hv c
    induction c with
    | zero => intro m h1 h2; exact absurd h1 (by omega)
    | succ c ih =>
      intro m h1 h2
      refine z_iload cx dX8_bright_35 rfl ?_
      refine z_aload_n cx 0 dX8_bright_37 rfl rfl ?_
      refine gX8_7 cx dX8_bright_38 ?_
      refine z_iconst cx dX8_bright_41 ic_0 ?_
      refine g_ialdN cx 0 (by decide) (fun _ => rfl) rfl (by omega) (by decide) dX8_bright_42 ?_
      rw [eE]
      refine z_icmp_ge (tgt := 59) cx dX8_bright_43 (by decide) (fun c_43 => ?_) (fun c_43 => ?_)
      · have c43 := (nI_leI (by omega) (by omega)).mp c_43
        have e5 : m = E - t := by omega
        subst e5
        refine z_iconst cx dX8_bright_59 ic_0 ?_
        refine z_istore cx dX8_bright_60 hnL (by decide) rfl ?_
        exact loop kk gd hk hg2 hgd hv 129 0 _ _ _ _ _ (by omega) (by omega)
      · have c43 : ¬ E ≤ t + m := fun z => c_43 ((nI_leI (by omega) (by omega)).mpr z)
        refine z_iload cx dX8_bright_46 rfl ?_
        refine z_bipush cx dX8_bright_48 bi_10 ?_
        refine z_imul cx dX8_bright_50 ?_
        rw [show nI (10 ^ m) * 10 = nI (10 ^ (m + 1)) by rw [Nat.pow_succ]; exact pk_mul (10 ^ m) 10]
        refine z_istore cx dX8_bright_51 hnL (by decide) rfl ?_
        refine z_iinc cx dX8_bright_53 rfl ic_1 (nI_1 _) hnL (by decide) rfl ?_
        refine z_goto (tgt := 35) cx dX8_bright_56 (by decide) ?_
        exact ih (m + 1) (by omega) (by omega)
  refine z_iload_n cx 1 dX8_bright_0 rfl rfl ?_
  refine z_iconst cx dX8_bright_1 ic_0 ?_
  refine z_bipush cx dX8_bright_2 bi_7 ?_
  refine z_S3i cx sX8_in kX8_35 (c_X8_in hg σ _ _ _) (by decide) (Nat.le_of_ble_eq_true rfl) dX8_bright_4 ?_
  refine z_ifb_eq (tgt := 19) cx dX8_bright_7 (by decide) (fun c_7 => ?_) (fun c_7 => ?_)
  · have c7 : inW k 7 = false := c_7
    refine z_bipush cx dX8_bright_19 bi_m3 ?_
    exact z_iret cx hR ⟨by rw [brM, if_pos c7], rfl⟩ dX8_bright_21
  · have c7 : inW k 7 = true := c_7
    obtain ⟨kk, hk, rfl⟩ := inW_of (n := 7) c7 (by decide)
    have c7n : ¬ inW (nI kk) 7 = false := by rw [c7]; decide
    refine z_iload_n cx 2 dX8_bright_10 rfl rfl ?_
    refine z_iconst cx dX8_bright_11 ic_0 ?_
    refine z_iconst cx dX8_bright_12 ic_1 ?_
    refine z_S3i cx sX8_in kX8_35 (c_X8_in hg σ _ _ _) (by decide) (Nat.le_of_ble_eq_true rfl) dX8_bright_13 ?_
    refine z_ifb_ne (tgt := 22) cx dX8_bright_16 (by decide) (fun c_16 => ?_) (fun c_16 => ?_)
    · have c16 : ¬ inW p 1 = false := by rw [show inW p 1 = true from c_16]; decide
      refine z_iconst cx dX8_bright_22 ic_0 ?_
      refine z_istore_n cx 3 dX8_bright_23 rfl hnL (by decide) rfl ?_
      refine z_iconst cx dX8_bright_24 ic_1 ?_
      refine z_istore cx dX8_bright_25 hnL (by decide) rfl ?_
      refine z_aload_n cx 0 dX8_bright_27 rfl rfl ?_
      refine gX8_7 cx dX8_bright_28 ?_
      refine z_iconst cx dX8_bright_31 ic_2 ?_
      refine g_ialdN cx 2 (by decide) (fun _ => rfl) rfl (by omega) (by decide) dX8_bright_32 ?_
      rw [eT]
      refine z_istore cx dX8_bright_33 hnL (by decide) rfl ?_
      obtain ⟨gd, hg2, hgd⟩ := hG kk hk
      have e1 : gdM σ t E kk = gd := by rw [gdM, hgd, toN_nI hg2]
      exact loop1 kk gd hk hg2 hgd (fun v e => by rw [e, brM, if_neg c7n, if_neg c16, toN_nI (by omega), e1]) (E - t + 1) 0 (by omega) (by omega)
    · have c16 : inW p 1 = false := c_16
      refine z_bipush cx dX8_bright_19 bi_m3 ?_
      exact z_iret cx hR ⟨by rw [brM, if_neg c7n, if_pos c16], rfl⟩ dX8_bright_21
