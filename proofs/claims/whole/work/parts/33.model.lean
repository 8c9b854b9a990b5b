theorem rmF_of {w E B : Nat} (h1 : 1 ≤ w ∧ w ≤ 3 → E < 7) (h2 : 4 ≤ w ∧ w ≤ 7 → B < 5) : rmF w E B = true := by
  unfold rmF
  by_cases q1 : 1 ≤ w ∧ w ≤ 3
  · rw [if_pos q1]; exact decide_eq_true (h1 q1)
  · rw [if_neg q1]
    by_cases q2 : 4 ≤ w ∧ w ≤ 7
    · rw [if_pos q2]; exact decide_eq_true (h2 q2)
    · rw [if_neg q2]
theorem mxI_0 (x : Int32) : mxI 0 x = if 0 < x then x else 0 := by
  unfold mxI
  by_cases h : 0 < x
  · rw [if_pos h, if_pos (Int32.le_of_lt h)]
  · rw [if_neg h]
    by_cases h2 : 0 ≤ x
    · rw [if_pos h2]; exact Int32.le_antisymm (Int32.not_lt.mp h) h2
    · rw [if_neg h2]
/-- a clause done on the draft -/
def dOut (f : Nat → Int32) (w E B : Nat) (a b : Int32) : Nat → Int32 :=
  if w = 0 then flF 100 0 f
  else if w ≤ 3 then upd (upd (upd f (7 + 9 * E) (nI (w - 1))) (7 + 9 * E + 1) (clC (nI (w - 1)) a)) 0 (nI (E + 1))
  else if w ≤ 7 then upd (upd (upd (upd f (70 + 6 * B) (nI (w - 4))) (70 + 6 * B + 1) a) (70 + 6 * B + 2) b) 1 (nI (B + 1))
  else if w ≤ 9 then upd f 3 (nI (w - 8)) else if w = 10 then upd f 4 a else if w = 11 then upd f 5 a else upd f 0 0
def ReQ (σ' σ : Mem) (L p E B : Nat) (v : Int32) : Prop :=
  (match clP (σ 6) L p E B with
    | .inl f => v = 0 ∧ σ' 0 12 = nI f
    | .inr (p2, w, a, b) => v = 1 ∧ p2 ≤ L ∧ TkQ σ' (σ 6) L (tkB (σ 6) L p2) ∧ σ' 2 = dOut (σ 2) w E B a b) ∧
  (∀ k, k < 11 ∨ 15 < k → σ' 0 k = σ 0 k) ∧ ∀ q, q ≠ 0 → q ≠ 2 → σ' q = σ q
set_option maxRecDepth 100000 in
set_option maxHeartbeats 4000000 in
theorem c_X8_reads {l : Launch} {g : Gx} (hg : ApG 9 g.ad) (σ : Mem) {L p E B : Nat} (hT : TxH σ L) (hp : p ≤ L) (hK : TkQ σ (σ 6) L (tkB (σ 6) L p)) (hE : E ≤ 7) (hB : B ≤ 5) (eE : σ 2 0 = nI E) (eB : σ 2 1 = nI B) : CtI l (OM g) 3 mX8_reads [.ref (g.ad 0)] σ (fun v σ' => ReQ σ' σ L p E B v) := by
  refine ct_of (lv := [some (.ref (g.ad 0)), none, none, none]) (okM hg) (by decide +kernel) (Nat.le_of_ble_eq_true rfl) (fun ls h => lvh_entry h rfl 3) ?_
  intro κ hl hnL cx hR
  subst hl
  have cx : Cx κ (OM g) RX8 cX8_reads 3 := cx
  have hnL : κ.nL = 4 := hnL
  generalize hb0 : tkB (σ 6) L p = b0 at hK
  generalize he0 : tkE (σ 6) L b0 = e0
  generalize hw9 : wdN (σ 6) b0 e0 = w
  generalize hb1 : tkB (σ 6) L e0 = b1
  generalize he1 : tkE (σ 6) L b1 = e1
  generalize hb2 : tkB (σ 6) L e1 = b2
  generalize he2 : tkE (σ 6) L b2 = e2
  have hC := clP_at (E := E) (B := B) hb0 he0 hw9 hb1 he1 hb2 he2
  have i0 : p ≤ b0 ∧ b0 ≤ L := by rw [← hb0]; exact tkB_in hp
  have j0 : b0 ≤ e0 ∧ e0 ≤ L ∧ (b0 < L → b0 < e0) := by rw [← he0]; exact tkE_in i0.2
  have i1 : e0 ≤ b1 ∧ b1 ≤ L := by rw [← hb1]; exact tkB_in j0.2.1
  have j1 : b1 ≤ e1 ∧ e1 ≤ L ∧ (b1 < L → b1 < e1) := by rw [← he1]; exact tkE_in i1.2
  have i2 : e1 ≤ b2 ∧ b2 ≤ L := by rw [← hb2]; exact tkB_in j1.2.1
  have j2 : b2 ≤ e2 ∧ e2 ≤ L ∧ (b2 < L → b2 < e2) := by rw [← he2]; exact tkE_in i2.2
  have hw13 : w ≤ 13 := by rw [← hw9]; exact wdN_le _ _ _
  have hcl : clI (wdV (σ 6) L b0) = wdI w := by rw [clI_wd i0.2 hT.2.2, he0, hw9]
  have hTx : ∀ τ : Mem, (∀ k, k < 11 ∨ 15 < k → τ 0 k = σ 0 k) → τ 6 = σ 6 → TxH τ L := fun τ h1 h2 => ⟨hT.1, (h1 7 (by omega)).trans hT.2.1, by rw [h2]; exact hT.2.2⟩
  -- behind a number: the next token, the end
  have good : ∀ (τ : Mem) (p2 : Nat) (a b : Int32) (x y : Option Value), (∀ k, k < 11 ∨ 15 < k → τ 0 k = σ 0 k) → (∀ q, q ≠ 0 → q ≠ 2 → τ q = σ q) → clP (σ 6) L p E B = .inr (p2, w, a, b) → p2 ≤ L → TkQ τ (σ 6) L (tkB (σ 6) L p2) → τ 2 = dOut (σ 2) w E B a b → Z κ (OM g) τ 333 [some (.ref (g.ad 0)), some (.int (nI w)), x, y] [] := by
    intro τ p2 a b x y h1 h2 h3 h4 h5 h6
    refine z_iconst cx dX8_reads_333 ic_1 ?_
    refine z_zret cx hR rfl ⟨_, rfl, ?_, h1, h2⟩ dX8_reads_334
    rw [h3]
    exact ⟨rfl, h4, h5, h6⟩
  have rest9 : w < 13 → rmF w E B = true → Z κ (OM g) σ 52 [some (.ref (g.ad 0)), some (.int (nI w)), none, none] [] := by
    intro c11 hrm
    rw [if_neg (by omega), if_neg (by rw [hrm]; decide)] at hC
    refine z_aload_n cx 0 dX8_reads_52 rfl rfl ?_
    refine z_V0V cx vX8_token kX8_87 (c_X8_token hg σ hT j0.2.1 (by rw [hK.2.1, he0])) (by decide) hM0 rfl rfl (Nat.le_of_ble_eq_true rfl) dX8_reads_53 (fun σ_53 h_53 => ?_)
    obtain ⟨tK, tO⟩ := h_53
    rw [hb1] at tK
    have y1 : ∀ k, k < 11 ∨ 15 < k → σ_53 0 k = σ 0 k := fun k hk => tO.1 k (by omega) (by omega) (by omega) (by omega)
    have yq : ∀ q, q ≠ 0 → σ_53 q = σ q := tO.2
    have x6 : σ_53 6 = σ 6 := yq 6 (by decide)
    have x2 : σ_53 2 = σ 2 := yq 2 (by decide)
    have T1 : TxH σ_53 L := hTx σ_53 y1 x6
    have K1 : TkQ σ_53 (σ_53 6) L b1 := by rw [x6]; exact tK
    have t11 : σ_53 0 11 = nI e1 := by rw [tK.2.1, he1]
    refine z_iload_n cx 1 dX8_reads_56 rfl rfl ?_
    refine z_if_ne (tgt := 70) cx dX8_reads_57 (by decide) (fun c_57 => ?_) (fun c_57 => ?_)
    · have c57 : ¬ w = 0 := fun z => c_57 (by rw [z]; rfl)
      refine z_iload_n cx 1 dX8_reads_70 rfl rfl ?_
      refine z_iconst cx dX8_reads_71 ic_4 ?_
      refine z_icmp_ge (tgt := 156) cx dX8_reads_72 (by decide) (fun c_72 => ?_) (fun c_72 => ?_)
      · have c72 : 4 ≤ w := (nI_leI (a := 4) (by decide) (by omega)).mp c_72
        refine z_iload_n cx 1 dX8_reads_156 rfl rfl ?_
        refine z_bipush cx dX8_reads_157 bi_8 ?_
        refine z_icmp_ge (tgt := 252) cx dX8_reads_159 (by decide) (fun c_159 => ?_) (fun c_159 => ?_)
        · have c159 : 8 ≤ w := (nI_leI (a := 8) (by decide) (by omega)).mp c_159
          refine z_iload_n cx 1 dX8_reads_252 rfl rfl ?_
          refine z_bipush cx dX8_reads_253 bi_10 ?_
          refine z_icmp_ge (tgt := 271) cx dX8_reads_255 (by decide) (fun c_255 => ?_) (fun c_255 => ?_)
          · have c255 : 10 ≤ w := (nI_leI (a := 10) (by decide) (by omega)).mp c_255
            refine z_iload_n cx 1 dX8_reads_271 rfl rfl ?_
            refine z_bipush cx dX8_reads_272 bi_12 ?_
            refine z_icmp_ge (tgt := 326) cx dX8_reads_274 (by decide) (fun c_274 => ?_) (fun c_274 => ?_)
            · have c274 : 12 ≤ w := (nI_leI (a := 12) (by decide) (by omega)).mp c_274
              refine z_aload_n cx 0 dX8_reads_326 rfl rfl ?_
              refine gX8_13 cx dX8_reads_327 ?_
              refine z_iconst cx dX8_reads_330 ic_0 ?_
              refine z_iconst cx dX8_reads_331 ic_0 ?_
              refine g_iastN cx 0 (by decide) (fun _ => rfl) rfl (by omega) (by decide) dX8_reads_332 ?_
              rw [if_pos (show nbh w = 0 by rw [nbh, if_neg (by omega), if_neg (by omega)])] at hC
              exact good _ e0 0 0 _ _ (fun k hk => y1 k hk) (fun q q1 q2 => by rw [up2_ne _ _ _ q2]; exact yq q q1) hC j0.2.1 (by rw [hb1]; exact tK) (by rw [up2_at, x2, dOut, if_neg c57, if_neg (by omega), if_neg (by omega), if_neg (by omega), if_neg (by omega), if_neg (by omega)])
            · have c274 : w < 12 := Nat.not_le.mp (fun z => c_274 ((nI_leI (a := 12) (by decide) (by omega)).mpr z))
              refine z_aload_n cx 0 dX8_reads_277 rfl rfl ?_
              refine z_iload_n cx 1 dX8_reads_278 rfl rfl ?_
              refine z_bipush cx dX8_reads_279 bi_10 ?_
              refine z_icmp_ne (tgt := 289) cx dX8_reads_281 (by decide) (fun c_281 => ?_) (fun c_281 => ?_)
              · have c281 : ¬ w = 10 := fun z => c_281 (by rw [z]; rfl)
                have c281b : w = 11 := by omega
                refine z_bipush cx dX8_reads_289 bi_10 ?_
                refine z_V1I cx vX8_isNumber kX8_94 (c_X8_isNumber hg σ_53 T1 i1.2 K1 _) (by decide) hM0 rfl rfl (Nat.le_of_ble_eq_true rfl) dX8_reads_291 (fun v_291 σ_291 h_291 => ?_)
                obtain ⟨nv9, nf9, nO⟩ := h_291
                have nb1 : nbh w = 1 := by rw [nbh, if_neg (by omega), if_pos (by omega)]
                have ht10 : (10 : Int32) = nI (tpb w) := by rw [tpb, if_pos (by omega)]; rfl
                rw [x6, he1, ht10] at nv9 nf9
                rw [nv9]
                refine z_ifb_ne (tgt := 299) cx dX8_reads_294 (by decide) (fun c_294 => ?_) (fun c_294 => ?_)
                · have hn9 : ¬ nmT (σ 6) b1 e1 (nI (tpb w)) = -1 := by simpa using c_294
                  have n15 := nf9 hn9
                  have z2 : σ_291 2 = σ 2 := (nO.2 2 (by decide)).trans x2
                  refine z_aload_n cx 0 dX8_reads_299 rfl rfl ?_
                  refine gX8_13 cx dX8_reads_300 ?_
                  refine z_iload_n cx 1 dX8_reads_303 rfl rfl ?_
                  refine z_bipush cx dX8_reads_304 bi_10 ?_
                  refine z_icmp_ne (tgt := 313) cx dX8_reads_306 (by decide) (fun c_306 => ?_) (fun c_306 => ?_)
                  · refine z_iconst cx dX8_reads_313 ic_5 ?_
                    refine z_aload_n cx 0 dX8_reads_314 rfl rfl ?_
                    refine gX8_80 cx dX8_reads_315 ?_
                    rw [n15]
                    refine g_iastN cx 5 (by decide) (fun _ => rfl) rfl (by omega) (by decide) dX8_reads_318 ?_
                    have r0 : ∀ k, (up2 σ_291 2 5 (nmT (σ 6) b1 e1 (nI (tpb w)))) 0 k = σ_291 0 k := fun _ => rfl
                    have rq : ∀ q, q ≠ 2 → (up2 σ_291 2 5 (nmT (σ 6) b1 e1 (nI (tpb w)))) q = σ_291 q := fun q hq => by rw [up2_ne _ _ _ hq]
                    have rd : (up2 σ_291 2 5 (nmT (σ 6) b1 e1 (nI (tpb w)))) 2 = dOut (σ 2) w E B (nmT (σ 6) b1 e1 (nI (tpb w))) 0 := by
                      rw [dOut, if_neg c57, if_neg (by omega), if_neg (by omega), if_neg (by omega), if_neg (by omega), if_pos (by omega), up2_at, z2]
                    generalize hρ : (up2 σ_291 2 5 (nmT (σ 6) b1 e1 (nI (tpb w)))) = ρ at *
                    have R0 : ∀ k, k < 11 ∨ 15 < k → ρ 0 k = σ 0 k := fun k hk => (r0 k).trans ((nO.1 k (by omega)).trans (y1 k hk))
                    have Rq : ∀ q, q ≠ 0 → q ≠ 2 → ρ q = σ q := fun q q1 q2 => (rq q q2).trans ((nO.2 q q1).trans (yq q q1))
                    have R6 : ρ 6 = σ 6 := Rq 6 (by decide) (by decide)
                    have R11 : ρ 0 11 = nI e1 := (r0 11).trans ((nO.1 11 (by decide)).trans t11)
                    refine z_aload_n cx 0 dX8_reads_319 rfl rfl ?_
                    refine z_V0V cx vX8_token kX8_87 (c_X8_token hg ρ (hTx ρ R0 R6) j1.2.1 R11) (by decide) hM0 rfl rfl (Nat.le_of_ble_eq_true rfl) dX8_reads_320 (fun σ_320 h_320 => ?_)
                    obtain ⟨uK, uO⟩ := h_320
                    rw [R6] at uK
                    have U0 : ∀ k, k < 11 ∨ 15 < k → σ_320 0 k = σ 0 k := fun k hk => (uO.1 k (by omega) (by omega) (by omega) (by omega)).trans (R0 k hk)
                    have Uq : ∀ q, q ≠ 0 → q ≠ 2 → σ_320 q = σ q := fun q q1 q2 => (uO.2 q q1).trans (Rq q q1 q2)
                    have Ud := (uO.2 2 (by decide)).trans rd
                    refine z_goto (tgt := 333) cx dX8_reads_323 (by decide) ?_
                    rw [if_neg (by omega), if_neg hn9, if_pos nb1] at hC
                    exact good σ_320 e1 (nmT (σ 6) b1 e1 (nI (tpb w))) 0 _ _ U0 Uq hC j1.2.1 uK Ud
                  · exact absurd ((nI_eq (b := 10) (by omega) (by decide)).mp c_306) c281
                · have hn9 : nmT (σ 6) b1 e1 (nI (tpb w)) = -1 := by simpa using c_294
                  refine z_iconst cx dX8_reads_297 ic_0 ?_
                  refine z_zret cx hR rfl ⟨_, rfl, ?_, fun k hk => (nO.1 k (by omega)).trans (y1 k hk), fun q q1 q2 => (nO.2 q q1).trans (yq q q1)⟩ dX8_reads_298
                  rw [hC, if_neg (by omega), if_pos hn9]
                  exact ⟨rfl, (nO.1 12 (by decide)).trans tK.1⟩
              · have c281 : w = 10 := (nI_eq (b := 10) (by omega) (by decide)).mp c_281
                refine z_bipush cx dX8_reads_284 bi_99 ?_
                refine z_goto (tgt := 291) cx dX8_reads_286 (by decide) ?_
                refine z_V1I cx vX8_isNumber kX8_94 (c_X8_isNumber hg σ_53 T1 i1.2 K1 _) (by decide) hM0 rfl rfl (Nat.le_of_ble_eq_true rfl) dX8_reads_291 (fun v_291 σ_291 h_291 => ?_)
                obtain ⟨nv9, nf9, nO⟩ := h_291
                have nb1 : nbh w = 1 := by rw [nbh, if_neg (by omega), if_pos (by omega)]
                have ht99 : (99 : Int32) = nI (tpb w) := by rw [tpb, if_neg (by omega)]; rfl
                rw [x6, he1, ht99] at nv9 nf9
                rw [nv9]
                refine z_ifb_ne (tgt := 299) cx dX8_reads_294 (by decide) (fun c_294 => ?_) (fun c_294 => ?_)
                · have hn9 : ¬ nmT (σ 6) b1 e1 (nI (tpb w)) = -1 := by simpa using c_294
                  have n15 := nf9 hn9
                  have z2 : σ_291 2 = σ 2 := (nO.2 2 (by decide)).trans x2
                  refine z_aload_n cx 0 dX8_reads_299 rfl rfl ?_
                  refine gX8_13 cx dX8_reads_300 ?_
                  refine z_iload_n cx 1 dX8_reads_303 rfl rfl ?_
                  refine z_bipush cx dX8_reads_304 bi_10 ?_
                  refine z_icmp_ne (tgt := 313) cx dX8_reads_306 (by decide) (fun c_306 => ?_) (fun c_306 => ?_)
                  · exact absurd (by rw [c281]; rfl) c_306
                  · refine z_iconst cx dX8_reads_309 ic_4 ?_
                    refine z_goto (tgt := 314) cx dX8_reads_310 (by decide) ?_
                    refine z_aload_n cx 0 dX8_reads_314 rfl rfl ?_
                    refine gX8_80 cx dX8_reads_315 ?_
                    rw [n15]
                    refine g_iastN cx 4 (by decide) (fun _ => rfl) rfl (by omega) (by decide) dX8_reads_318 ?_
                    have r0 : ∀ k, (up2 σ_291 2 4 (nmT (σ 6) b1 e1 (nI (tpb w)))) 0 k = σ_291 0 k := fun _ => rfl
                    have rq : ∀ q, q ≠ 2 → (up2 σ_291 2 4 (nmT (σ 6) b1 e1 (nI (tpb w)))) q = σ_291 q := fun q hq => by rw [up2_ne _ _ _ hq]
                    have rd : (up2 σ_291 2 4 (nmT (σ 6) b1 e1 (nI (tpb w)))) 2 = dOut (σ 2) w E B (nmT (σ 6) b1 e1 (nI (tpb w))) 0 := by
                      rw [dOut, if_neg c57, if_neg (by omega), if_neg (by omega), if_neg (by omega), if_pos (by omega), up2_at, z2]
                    generalize hρ : (up2 σ_291 2 4 (nmT (σ 6) b1 e1 (nI (tpb w)))) = ρ at *
                    have R0 : ∀ k, k < 11 ∨ 15 < k → ρ 0 k = σ 0 k := fun k hk => (r0 k).trans ((nO.1 k (by omega)).trans (y1 k hk))
                    have Rq : ∀ q, q ≠ 0 → q ≠ 2 → ρ q = σ q := fun q q1 q2 => (rq q q2).trans ((nO.2 q q1).trans (yq q q1))
                    have R6 : ρ 6 = σ 6 := Rq 6 (by decide) (by decide)
                    have R11 : ρ 0 11 = nI e1 := (r0 11).trans ((nO.1 11 (by decide)).trans t11)
                    refine z_aload_n cx 0 dX8_reads_319 rfl rfl ?_
                    refine z_V0V cx vX8_token kX8_87 (c_X8_token hg ρ (hTx ρ R0 R6) j1.2.1 R11) (by decide) hM0 rfl rfl (Nat.le_of_ble_eq_true rfl) dX8_reads_320 (fun σ_320 h_320 => ?_)
                    obtain ⟨uK, uO⟩ := h_320
                    rw [R6] at uK
                    have U0 : ∀ k, k < 11 ∨ 15 < k → σ_320 0 k = σ 0 k := fun k hk => (uO.1 k (by omega) (by omega) (by omega) (by omega)).trans (R0 k hk)
                    have Uq : ∀ q, q ≠ 0 → q ≠ 2 → σ_320 q = σ q := fun q q1 q2 => (uO.2 q q1).trans (Rq q q1 q2)
                    have Ud := (uO.2 2 (by decide)).trans rd
                    refine z_goto (tgt := 333) cx dX8_reads_323 (by decide) ?_
                    rw [if_neg (by omega), if_neg hn9, if_pos nb1] at hC
                    exact good σ_320 e1 (nmT (σ 6) b1 e1 (nI (tpb w))) 0 _ _ U0 Uq hC j1.2.1 uK Ud
                · have hn9 : nmT (σ 6) b1 e1 (nI (tpb w)) = -1 := by simpa using c_294
                  refine z_iconst cx dX8_reads_297 ic_0 ?_
                  refine z_zret cx hR rfl ⟨_, rfl, ?_, fun k hk => (nO.1 k (by omega)).trans (y1 k hk), fun q q1 q2 => (nO.2 q q1).trans (yq q q1)⟩ dX8_reads_298
                  rw [hC, if_neg (by omega), if_pos hn9]
                  exact ⟨rfl, (nO.1 12 (by decide)).trans tK.1⟩
          · have c255 : w < 10 := Nat.not_le.mp (fun z => c_255 ((nI_leI (a := 10) (by decide) (by omega)).mpr z))
            refine z_aload_n cx 0 dX8_reads_258 rfl rfl ?_
            refine gX8_13 cx dX8_reads_259 ?_
            refine z_iconst cx dX8_reads_262 ic_3 ?_
            refine z_iload_n cx 1 dX8_reads_263 rfl rfl ?_
            refine z_bipush cx dX8_reads_264 bi_8 ?_
            refine z_isub cx dX8_reads_266 ?_
            rw [show nI w - 8 = nI (w - 8) from pk_sub (b := 8) (by omega)]
            refine g_iastN cx 3 (by decide) (fun _ => rfl) rfl (by omega) (by decide) dX8_reads_267 ?_
            refine z_goto (tgt := 333) cx dX8_reads_268 (by decide) ?_
            rw [if_pos (show nbh w = 0 by rw [nbh, if_neg (by omega), if_neg (by omega)])] at hC
            exact good _ e0 0 0 _ _ (fun k hk => y1 k hk) (fun q q1 q2 => by rw [up2_ne _ _ _ q2]; exact yq q q1) hC j0.2.1 (by rw [hb1]; exact tK) (by rw [up2_at, x2, dOut, if_neg c57, if_neg (by omega), if_neg (by omega), if_pos (by omega)])
        · have c159 : w < 8 := Nat.not_le.mp (fun z => c_159 ((nI_leI (a := 8) (by decide) (by omega)).mpr z))
          refine z_aload_n cx 0 dX8_reads_162 rfl rfl ?_
          refine z_bipush cx dX8_reads_163 bi_99 ?_
          refine z_V1I cx vX8_isNumber kX8_94 (c_X8_isNumber hg σ_53 T1 i1.2 K1 _) (by decide) hM0 rfl rfl (Nat.le_of_ble_eq_true rfl) dX8_reads_165 (fun v_165 σ_165 h_165 => ?_)
          obtain ⟨nv9, nf9, nO⟩ := h_165
          have nb2 : nbh w = 2 := by rw [nbh, if_pos (by omega)]
          have ht99 : (99 : Int32) = nI (tpb w) := by rw [tpb, if_neg (by omega)]; rfl
          rw [x6, he1, ht99] at nv9 nf9
          rw [nv9]
          refine z_ifb_ne (tgt := 173) cx dX8_reads_168 (by decide) (fun c_168 => ?_) (fun c_168 => ?_)
          · have hn9 : ¬ nmT (σ 6) b1 e1 (nI (tpb w)) = -1 := by simpa using c_168
            have n15 := nf9 hn9
            refine z_aload_n cx 0 dX8_reads_173 rfl rfl ?_
            refine gX8_80 cx dX8_reads_174 ?_
            rw [n15]
            refine z_istore_n cx 2 dX8_reads_177 rfl hnL (by decide) rfl ?_
            refine z_aload_n cx 0 dX8_reads_178 rfl rfl ?_
            refine z_V0V cx vX8_token kX8_87 (c_X8_token hg σ_165 (hTx σ_165 (fun k hk => (nO.1 k (by omega)).trans (y1 k hk)) ((nO.2 6 (by decide)).trans x6)) j1.2.1 ((nO.1 11 (by decide)).trans t11)) (by decide) hM0 rfl rfl (Nat.le_of_ble_eq_true rfl) dX8_reads_179 (fun σ_179 h_179 => ?_)
            obtain ⟨sK, sO⟩ := h_179
            rw [(nO.2 6 (by decide)).trans x6, hb2] at sK
            have S0 : ∀ k, k < 11 ∨ 15 < k → σ_179 0 k = σ 0 k := fun k hk => (sO.1 k (by omega) (by omega) (by omega) (by omega)).trans ((nO.1 k (by omega)).trans (y1 k hk))
            have Sq : ∀ q, q ≠ 0 → σ_179 q = σ q := fun q hq => (sO.2 q hq).trans ((nO.2 q hq).trans (yq q hq))
            have s6 : σ_179 6 = σ 6 := Sq 6 (by decide)
            have K2 : TkQ σ_179 (σ_179 6) L b2 := by rw [s6]; exact sK
            have s11 : σ_179 0 11 = nI e2 := by rw [sK.2.1, he2]
            have hn1 := hn9
            clear nv9 nf9 nO n15 hn9
            refine z_aload_n cx 0 dX8_reads_182 rfl rfl ?_
            refine z_bipush cx dX8_reads_183 bi_99 ?_
            refine z_V1I cx vX8_isNumber kX8_94 (c_X8_isNumber hg σ_179 (hTx σ_179 S0 s6) i2.2 K2 _) (by decide) hM0 rfl rfl (Nat.le_of_ble_eq_true rfl) dX8_reads_185 (fun v_185 σ_185 h_185 => ?_)
            obtain ⟨nv9, nf9, nO⟩ := h_185
            rw [s6, he2] at nv9 nf9
            rw [nv9]
            refine z_ifb_ne (tgt := 193) cx dX8_reads_188 (by decide) (fun c_188 => ?_) (fun c_188 => ?_)
            · have hn9 : ¬ nmT (σ 6) b2 e2 99 = -1 := by simpa using c_188
              have n15 := nf9 hn9
              have hB5 : B < 5 := by have := hrm; rw [rmF, if_neg (by omega), if_pos (by omega)] at this; simpa using this
              have z2 : σ_185 2 = σ 2 := (nO.2 2 (by decide)).trans (Sq 2 (by decide))
              refine z_aload_n cx 0 dX8_reads_193 rfl rfl ?_
              refine gX8_13 cx dX8_reads_194 ?_
              refine z_iconst cx dX8_reads_197 ic_1 ?_
              refine g_ialdN cx 1 (by decide) (fun _ => rfl) rfl (by omega) (by decide) dX8_reads_198 ?_
              rw [show σ_185 2 1 = nI B by rw [z2, eB]]
              refine z_S1i cx sX8_bidderAt kX8_105 (c_X8_bidderAt hg σ_185 B) (by decide) (Nat.le_of_ble_eq_true rfl) dX8_reads_199 ?_
              refine z_istore_n cx 3 dX8_reads_202 rfl hnL (by decide) rfl ?_
              refine z_aload_n cx 0 dX8_reads_203 rfl rfl ?_
              refine gX8_13 cx dX8_reads_204 ?_
              refine z_iload_n cx 3 dX8_reads_207 rfl rfl ?_
              refine z_iconst cx dX8_reads_208 ic_0 ?_
              refine z_iadd cx dX8_reads_209 ?_
              refine z_iload_n cx 1 dX8_reads_210 rfl rfl ?_
              refine z_iconst cx dX8_reads_211 ic_4 ?_
              refine z_isub cx dX8_reads_212 ?_
              rw [show nI w - 4 = nI (w - 4) from pk_sub (b := 4) (by omega)]
              refine g_iastN cx (70 + 6 * B) (by decide) (fun _ => rfl) (nI_add _ 0) (by omega) (by decide) dX8_reads_213 ?_
              refine z_aload_n cx 0 dX8_reads_214 rfl rfl ?_
              refine gX8_13 cx dX8_reads_215 ?_
              refine z_iload_n cx 3 dX8_reads_218 rfl rfl ?_
              refine z_iconst cx dX8_reads_219 ic_1 ?_
              refine z_iadd cx dX8_reads_220 ?_
              refine z_iload_n cx 2 dX8_reads_221 rfl rfl ?_
              refine g_iastN cx (70 + 6 * B + 1) (by decide) (fun _ => rfl) (nI_1 _) (by omega) (by decide) dX8_reads_222 ?_
              refine z_aload_n cx 0 dX8_reads_223 rfl rfl ?_
              refine gX8_13 cx dX8_reads_224 ?_
              refine z_iload_n cx 3 dX8_reads_227 rfl rfl ?_
              refine z_iconst cx dX8_reads_228 ic_2 ?_
              refine z_iadd cx dX8_reads_229 ?_
              refine z_aload_n cx 0 dX8_reads_230 rfl rfl ?_
              refine gX8_80 cx dX8_reads_231 ?_
              rw [show (up2 (up2 σ_185 2 (70 + 6 * B) (nI (w - 4))) 2 (70 + 6 * B + 1) (nmT (σ 6) b1 e1 (nI (tpb w)))) 0 15 = nmT (σ 6) b2 e2 99 from n15]
              refine g_iastN cx (70 + 6 * B + 2) (by decide) (fun _ => rfl) (nI_add _ 2) (by omega) (by decide) dX8_reads_234 ?_
              refine z_aload_n cx 0 dX8_reads_235 rfl rfl ?_
              refine gX8_13 cx dX8_reads_236 ?_
              refine z_iconst cx dX8_reads_239 ic_1 ?_
              refine z_dup2 cx dX8_reads_240 rfl rfl ?_
              refine g_ialdN cx 1 (by decide) (fun _ => rfl) rfl (by omega) (by decide) dX8_reads_241 ?_
              rw [show (up2 (up2 (up2 σ_185 2 (70 + 6 * B) (nI (w - 4))) 2 (70 + 6 * B + 1) (nmT (σ 6) b1 e1 (nI (tpb w)))) 2 (70 + 6 * B + 2) (nmT (σ 6) b2 e2 99)) 2 1 = nI B by rw [up2_at, upd_ne _ _ (by omega), up2_at, upd_ne _ _ (by omega), up2_at, upd_ne _ _ (by omega), z2, eB]]
              refine z_iconst cx dX8_reads_242 ic_1 ?_
              refine z_iadd cx dX8_reads_243 ?_
              rw [nI_1]
              refine g_iastN cx 1 (by decide) (fun _ => rfl) rfl (by omega) (by decide) dX8_reads_244 ?_
              have r0 : ∀ k, (up2 (up2 (up2 (up2 σ_185 2 (70 + 6 * B) (nI (w - 4))) 2 (70 + 6 * B + 1) (nmT (σ 6) b1 e1 (nI (tpb w)))) 2 (70 + 6 * B + 2) (nmT (σ 6) b2 e2 99)) 2 1 (nI (B + 1))) 0 k = σ_185 0 k := fun _ => rfl
              have rq : ∀ q, q ≠ 2 → (up2 (up2 (up2 (up2 σ_185 2 (70 + 6 * B) (nI (w - 4))) 2 (70 + 6 * B + 1) (nmT (σ 6) b1 e1 (nI (tpb w)))) 2 (70 + 6 * B + 2) (nmT (σ 6) b2 e2 99)) 2 1 (nI (B + 1))) q = σ_185 q := fun q hq => by rw [up2_ne _ _ _ hq, up2_ne _ _ _ hq, up2_ne _ _ _ hq, up2_ne _ _ _ hq]
              have rd : (up2 (up2 (up2 (up2 σ_185 2 (70 + 6 * B) (nI (w - 4))) 2 (70 + 6 * B + 1) (nmT (σ 6) b1 e1 (nI (tpb w)))) 2 (70 + 6 * B + 2) (nmT (σ 6) b2 e2 99)) 2 1 (nI (B + 1))) 2 = dOut (σ 2) w E B (nmT (σ 6) b1 e1 (nI (tpb w))) (nmT (σ 6) b2 e2 99) := by
                rw [dOut, if_neg c57, if_neg (by omega), if_pos (by omega), up2_at, up2_at, up2_at, up2_at, z2]
              generalize hρ : (up2 (up2 (up2 (up2 σ_185 2 (70 + 6 * B) (nI (w - 4))) 2 (70 + 6 * B + 1) (nmT (σ 6) b1 e1 (nI (tpb w)))) 2 (70 + 6 * B + 2) (nmT (σ 6) b2 e2 99)) 2 1 (nI (B + 1))) = ρ at *
              have R0 : ∀ k, k < 11 ∨ 15 < k → ρ 0 k = σ 0 k := fun k hk => (r0 k).trans ((nO.1 k (by omega)).trans (S0 k hk))
              have Rq : ∀ q, q ≠ 0 → q ≠ 2 → ρ q = σ q := fun q q1 q2 => (rq q q2).trans ((nO.2 q q1).trans (Sq q q1))
              have R6 : ρ 6 = σ 6 := Rq 6 (by decide) (by decide)
              have R11 : ρ 0 11 = nI e2 := (r0 11).trans ((nO.1 11 (by decide)).trans s11)
              refine z_aload_n cx 0 dX8_reads_245 rfl rfl ?_
              refine z_V0V cx vX8_token kX8_87 (c_X8_token hg ρ (hTx ρ R0 R6) j2.2.1 R11) (by decide) hM0 rfl rfl (Nat.le_of_ble_eq_true rfl) dX8_reads_246 (fun σ_246 h_246 => ?_)
              obtain ⟨uK, uO⟩ := h_246
              rw [R6] at uK
              have U0 : ∀ k, k < 11 ∨ 15 < k → σ_246 0 k = σ 0 k := fun k hk => (uO.1 k (by omega) (by omega) (by omega) (by omega)).trans (R0 k hk)
              have Uq : ∀ q, q ≠ 0 → q ≠ 2 → σ_246 q = σ q := fun q q1 q2 => (uO.2 q q1).trans (Rq q q1 q2)
              have Ud := (uO.2 2 (by decide)).trans rd
              refine z_goto (tgt := 333) cx dX8_reads_249 (by decide) ?_
              rw [if_neg (by omega), if_neg hn1, if_neg (by omega), if_neg hn9] at hC
              exact good σ_246 e2 (nmT (σ 6) b1 e1 (nI (tpb w))) (nmT (σ 6) b2 e2 99) _ _ U0 Uq hC j2.2.1 uK Ud
            · have hn9 : nmT (σ 6) b2 e2 99 = -1 := by simpa using c_188
              refine z_iconst cx dX8_reads_191 ic_0 ?_
              refine z_zret cx hR rfl ⟨_, rfl, ?_, fun k hk => (nO.1 k (by omega)).trans (S0 k hk), fun q q1 q2 => (nO.2 q q1).trans (Sq q q1)⟩ dX8_reads_192
              rw [hC, if_neg (by omega), if_neg hn1, if_neg (by omega), if_pos hn9]
              exact ⟨rfl, (nO.1 12 (by decide)).trans sK.1⟩
          · have hn9 : nmT (σ 6) b1 e1 (nI (tpb w)) = -1 := by simpa using c_168
            refine z_iconst cx dX8_reads_171 ic_0 ?_
            refine z_zret cx hR rfl ⟨_, rfl, ?_, fun k hk => (nO.1 k (by omega)).trans (y1 k hk), fun q q1 q2 => (nO.2 q q1).trans (yq q q1)⟩ dX8_reads_172
            rw [hC, if_neg (by omega), if_pos hn9]
            exact ⟨rfl, (nO.1 12 (by decide)).trans tK.1⟩
      · have c72 : w < 4 := Nat.not_le.mp (fun z => c_72 ((nI_leI (a := 4) (by decide) (by omega)).mpr z))
        refine z_aload_n cx 0 dX8_reads_75 rfl rfl ?_
        refine z_bipush cx dX8_reads_76 bi_10 ?_
        refine z_V1I cx vX8_isNumber kX8_94 (c_X8_isNumber hg σ_53 T1 i1.2 K1 _) (by decide) hM0 rfl rfl (Nat.le_of_ble_eq_true rfl) dX8_reads_78 (fun v_78 σ_78 h_78 => ?_)
        obtain ⟨nv9, nf9, nO⟩ := h_78
        have nb1 : nbh w = 1 := by rw [nbh, if_neg (by omega), if_pos (by omega)]
        have ht10 : (10 : Int32) = nI (tpb w) := by rw [tpb, if_pos (by omega)]; rfl
        rw [x6, he1, ht10] at nv9 nf9
        rw [nv9]
        refine z_ifb_ne (tgt := 86) cx dX8_reads_81 (by decide) (fun c_81 => ?_) (fun c_81 => ?_)
        · have hn9 : ¬ nmT (σ 6) b1 e1 (nI (tpb w)) = -1 := by simpa using c_81
          have n15 := nf9 hn9
          have hE7 : E < 7 := by have := hrm; rw [rmF, if_pos (by omega)] at this; simpa using this
          have z2 : σ_78 2 = σ 2 := (nO.2 2 (by decide)).trans x2
          refine z_aload_n cx 0 dX8_reads_86 rfl rfl ?_
          refine gX8_13 cx dX8_reads_87 ?_
          refine z_iconst cx dX8_reads_90 ic_0 ?_
          refine g_ialdN cx 0 (by decide) (fun _ => rfl) rfl (by omega) (by decide) dX8_reads_91 ?_
          rw [show σ_78 2 0 = nI E by rw [z2, eE]]
          refine z_S1i cx sX8_eveningAt kX8_98 (c_X8_eveningAt hg σ_78 E) (by decide) (Nat.le_of_ble_eq_true rfl) dX8_reads_92 ?_
          refine z_istore_n cx 2 dX8_reads_95 rfl hnL (by decide) rfl ?_
          refine z_aload_n cx 0 dX8_reads_96 rfl rfl ?_
          refine gX8_13 cx dX8_reads_97 ?_
          refine z_iload_n cx 2 dX8_reads_100 rfl rfl ?_
          refine z_iconst cx dX8_reads_101 ic_0 ?_
          refine z_iadd cx dX8_reads_102 ?_
          refine z_iload_n cx 1 dX8_reads_103 rfl rfl ?_
          refine z_iconst cx dX8_reads_104 ic_1 ?_
          refine z_isub cx dX8_reads_105 ?_
          rw [show nI w - 1 = nI (w - 1) from pk_sub (b := 1) (by omega)]
          refine g_iastN cx (7 + 9 * E) (by decide) (fun _ => rfl) (nI_add _ 0) (by omega) (by decide) dX8_reads_106 ?_
          refine z_aload_n cx 0 dX8_reads_107 rfl rfl ?_
          refine gX8_13 cx dX8_reads_108 ?_
          refine z_iload_n cx 2 dX8_reads_111 rfl rfl ?_
          refine z_iconst cx dX8_reads_112 ic_1 ?_
          refine z_iadd cx dX8_reads_113 ?_
          refine z_iload_n cx 1 dX8_reads_114 rfl rfl ?_
          refine z_iconst cx dX8_reads_115 ic_1 ?_
          refine z_isub cx dX8_reads_116 ?_
          rw [show nI w - 1 = nI (w - 1) from pk_sub (b := 1) (by omega)]
          refine z_iconst cx dX8_reads_117 ic_1 ?_
          refine z_icmp_ne (tgt := 134) cx dX8_reads_118 (by decide) (fun c_118 => ?_) (fun c_118 => ?_)
          · refine z_aload_n cx 0 dX8_reads_134 rfl rfl ?_
            refine gX8_80 cx dX8_reads_135 ?_
            rw [show (up2 σ_78 2 (7 + 9 * E) (nI (w - 1))) 0 15 = nmT (σ 6) b1 e1 (nI (tpb w)) from n15]
            refine z_eq rfl rfl (congrArg (fun q => [Value.int q, _, _]) (show nmT (σ 6) b1 e1 (nI (tpb w)) = clC (nI (w - 1)) (nmT (σ 6) b1 e1 (nI (tpb w))) by rw [clC, if_neg c_118])) ?_
            refine g_iastN cx (7 + 9 * E + 1) (by decide) (fun _ => rfl) (nI_1 _) (by omega) (by decide) dX8_reads_138 ?_
            refine z_aload_n cx 0 dX8_reads_139 rfl rfl ?_
            refine gX8_13 cx dX8_reads_140 ?_
            refine z_iconst cx dX8_reads_143 ic_0 ?_
            refine z_dup2 cx dX8_reads_144 rfl rfl ?_
            refine g_ialdN cx 0 (by decide) (fun _ => rfl) rfl (by omega) (by decide) dX8_reads_145 ?_
            rw [show (up2 (up2 σ_78 2 (7 + 9 * E) (nI (w - 1))) 2 (7 + 9 * E + 1) (clC (nI (w - 1)) (nmT (σ 6) b1 e1 (nI (tpb w))))) 2 0 = nI E by rw [up2_at, upd_ne _ _ (by omega), up2_at, upd_ne _ _ (by omega), z2, eE]]
            refine z_iconst cx dX8_reads_146 ic_1 ?_
            refine z_iadd cx dX8_reads_147 ?_
            rw [nI_1]
            refine g_iastN cx 0 (by decide) (fun _ => rfl) rfl (by omega) (by decide) dX8_reads_148 ?_
            have r0 : ∀ k, (up2 (up2 (up2 σ_78 2 (7 + 9 * E) (nI (w - 1))) 2 (7 + 9 * E + 1) (clC (nI (w - 1)) (nmT (σ 6) b1 e1 (nI (tpb w))))) 2 0 (nI (E + 1))) 0 k = σ_78 0 k := fun _ => rfl
            have rq : ∀ q, q ≠ 2 → (up2 (up2 (up2 σ_78 2 (7 + 9 * E) (nI (w - 1))) 2 (7 + 9 * E + 1) (clC (nI (w - 1)) (nmT (σ 6) b1 e1 (nI (tpb w))))) 2 0 (nI (E + 1))) q = σ_78 q := fun q hq => by rw [up2_ne _ _ _ hq, up2_ne _ _ _ hq, up2_ne _ _ _ hq]
            have rd : (up2 (up2 (up2 σ_78 2 (7 + 9 * E) (nI (w - 1))) 2 (7 + 9 * E + 1) (clC (nI (w - 1)) (nmT (σ 6) b1 e1 (nI (tpb w))))) 2 0 (nI (E + 1))) 2 = dOut (σ 2) w E B (nmT (σ 6) b1 e1 (nI (tpb w))) 0 := by
              rw [dOut, if_neg c57, if_pos (by omega), up2_at, up2_at, up2_at, z2]
            generalize hρ : (up2 (up2 (up2 σ_78 2 (7 + 9 * E) (nI (w - 1))) 2 (7 + 9 * E + 1) (clC (nI (w - 1)) (nmT (σ 6) b1 e1 (nI (tpb w))))) 2 0 (nI (E + 1))) = ρ at *
            have R0 : ∀ k, k < 11 ∨ 15 < k → ρ 0 k = σ 0 k := fun k hk => (r0 k).trans ((nO.1 k (by omega)).trans (y1 k hk))
            have Rq : ∀ q, q ≠ 0 → q ≠ 2 → ρ q = σ q := fun q q1 q2 => (rq q q2).trans ((nO.2 q q1).trans (yq q q1))
            have R6 : ρ 6 = σ 6 := Rq 6 (by decide) (by decide)
            have R11 : ρ 0 11 = nI e1 := (r0 11).trans ((nO.1 11 (by decide)).trans t11)
            refine z_aload_n cx 0 dX8_reads_149 rfl rfl ?_
            refine z_V0V cx vX8_token kX8_87 (c_X8_token hg ρ (hTx ρ R0 R6) j1.2.1 R11) (by decide) hM0 rfl rfl (Nat.le_of_ble_eq_true rfl) dX8_reads_150 (fun σ_150 h_150 => ?_)
            obtain ⟨uK, uO⟩ := h_150
            rw [R6] at uK
            have U0 : ∀ k, k < 11 ∨ 15 < k → σ_150 0 k = σ 0 k := fun k hk => (uO.1 k (by omega) (by omega) (by omega) (by omega)).trans (R0 k hk)
            have Uq : ∀ q, q ≠ 0 → q ≠ 2 → σ_150 q = σ q := fun q q1 q2 => (uO.2 q q1).trans (Rq q q1 q2)
            have Ud := (uO.2 2 (by decide)).trans rd
            refine z_goto (tgt := 333) cx dX8_reads_153 (by decide) ?_
            rw [if_neg (by omega), if_neg hn9, if_pos nb1] at hC
            exact good σ_150 e1 (nmT (σ 6) b1 e1 (nI (tpb w))) 0 _ _ U0 Uq hC j1.2.1 uK Ud
          · refine z_iconst cx dX8_reads_121 ic_0 ?_
            refine z_aload_n cx 0 dX8_reads_122 rfl rfl ?_
            refine gX8_80 cx dX8_reads_123 ?_
            rw [show (up2 σ_78 2 (7 + 9 * E) (nI (w - 1))) 0 15 = nmT (σ 6) b1 e1 (nI (tpb w)) from n15]
            refine z_iconst cx dX8_reads_126 ic_2 ?_
            refine z_isub cx dX8_reads_127 ?_
            refine z_S2i cx sX8_most kX8_101 (c_X8_most hg _ _ _) (by decide) (Nat.le_of_ble_eq_true rfl) dX8_reads_128 ?_
            rw [mxI_0]
            refine z_goto (tgt := 138) cx dX8_reads_131 (by decide) ?_
            refine z_eq rfl rfl (congrArg (fun q => [Value.int q, _, _]) (show _ = clC (nI (w - 1)) (nmT (σ 6) b1 e1 (nI (tpb w))) by rw [clC, if_pos c_118])) ?_
            refine g_iastN cx (7 + 9 * E + 1) (by decide) (fun _ => rfl) (nI_1 _) (by omega) (by decide) dX8_reads_138 ?_
            refine z_aload_n cx 0 dX8_reads_139 rfl rfl ?_
            refine gX8_13 cx dX8_reads_140 ?_
            refine z_iconst cx dX8_reads_143 ic_0 ?_
            refine z_dup2 cx dX8_reads_144 rfl rfl ?_
            refine g_ialdN cx 0 (by decide) (fun _ => rfl) rfl (by omega) (by decide) dX8_reads_145 ?_
            rw [show (up2 (up2 σ_78 2 (7 + 9 * E) (nI (w - 1))) 2 (7 + 9 * E + 1) (clC (nI (w - 1)) (nmT (σ 6) b1 e1 (nI (tpb w))))) 2 0 = nI E by rw [up2_at, upd_ne _ _ (by omega), up2_at, upd_ne _ _ (by omega), z2, eE]]
            refine z_iconst cx dX8_reads_146 ic_1 ?_
            refine z_iadd cx dX8_reads_147 ?_
            rw [nI_1]
            refine g_iastN cx 0 (by decide) (fun _ => rfl) rfl (by omega) (by decide) dX8_reads_148 ?_
            have r0 : ∀ k, (up2 (up2 (up2 σ_78 2 (7 + 9 * E) (nI (w - 1))) 2 (7 + 9 * E + 1) (clC (nI (w - 1)) (nmT (σ 6) b1 e1 (nI (tpb w))))) 2 0 (nI (E + 1))) 0 k = σ_78 0 k := fun _ => rfl
            have rq : ∀ q, q ≠ 2 → (up2 (up2 (up2 σ_78 2 (7 + 9 * E) (nI (w - 1))) 2 (7 + 9 * E + 1) (clC (nI (w - 1)) (nmT (σ 6) b1 e1 (nI (tpb w))))) 2 0 (nI (E + 1))) q = σ_78 q := fun q hq => by rw [up2_ne _ _ _ hq, up2_ne _ _ _ hq, up2_ne _ _ _ hq]
            have rd : (up2 (up2 (up2 σ_78 2 (7 + 9 * E) (nI (w - 1))) 2 (7 + 9 * E + 1) (clC (nI (w - 1)) (nmT (σ 6) b1 e1 (nI (tpb w))))) 2 0 (nI (E + 1))) 2 = dOut (σ 2) w E B (nmT (σ 6) b1 e1 (nI (tpb w))) 0 := by
              rw [dOut, if_neg c57, if_pos (by omega), up2_at, up2_at, up2_at, z2]
            generalize hρ : (up2 (up2 (up2 σ_78 2 (7 + 9 * E) (nI (w - 1))) 2 (7 + 9 * E + 1) (clC (nI (w - 1)) (nmT (σ 6) b1 e1 (nI (tpb w))))) 2 0 (nI (E + 1))) = ρ at *
            have R0 : ∀ k, k < 11 ∨ 15 < k → ρ 0 k = σ 0 k := fun k hk => (r0 k).trans ((nO.1 k (by omega)).trans (y1 k hk))
            have Rq : ∀ q, q ≠ 0 → q ≠ 2 → ρ q = σ q := fun q q1 q2 => (rq q q2).trans ((nO.2 q q1).trans (yq q q1))
            have R6 : ρ 6 = σ 6 := Rq 6 (by decide) (by decide)
            have R11 : ρ 0 11 = nI e1 := (r0 11).trans ((nO.1 11 (by decide)).trans t11)
            refine z_aload_n cx 0 dX8_reads_149 rfl rfl ?_
            refine z_V0V cx vX8_token kX8_87 (c_X8_token hg ρ (hTx ρ R0 R6) j1.2.1 R11) (by decide) hM0 rfl rfl (Nat.le_of_ble_eq_true rfl) dX8_reads_150 (fun σ_150 h_150 => ?_)
            obtain ⟨uK, uO⟩ := h_150
            rw [R6] at uK
            have U0 : ∀ k, k < 11 ∨ 15 < k → σ_150 0 k = σ 0 k := fun k hk => (uO.1 k (by omega) (by omega) (by omega) (by omega)).trans (R0 k hk)
            have Uq : ∀ q, q ≠ 0 → q ≠ 2 → σ_150 q = σ q := fun q q1 q2 => (uO.2 q q1).trans (Rq q q1 q2)
            have Ud := (uO.2 2 (by decide)).trans rd
            refine z_goto (tgt := 333) cx dX8_reads_153 (by decide) ?_
            rw [if_neg (by omega), if_neg hn9, if_pos nb1] at hC
            exact good σ_150 e1 (nmT (σ 6) b1 e1 (nI (tpb w))) 0 _ _ U0 Uq hC j1.2.1 uK Ud
        · have hn9 : nmT (σ 6) b1 e1 (nI (tpb w)) = -1 := by simpa using c_81
          refine z_iconst cx dX8_reads_84 ic_0 ?_
          refine z_zret cx hR rfl ⟨_, rfl, ?_, fun k hk => (nO.1 k (by omega)).trans (y1 k hk), fun q q1 q2 => (nO.2 q q1).trans (yq q q1)⟩ dX8_reads_85
          rw [hC, if_neg (by omega), if_pos hn9]
          exact ⟨rfl, (nO.1 12 (by decide)).trans tK.1⟩
    · have c57 : w = 0 := (nI_eq (b := 0) (by omega) (by decide)).mp c_57
      have nb0 : nbh w = 0 := by rw [nbh, if_neg (by omega), if_neg (by omega)]
      rw [if_pos nb0] at hC
      refine z_aload_n cx 0 dX8_reads_60 rfl rfl ?_
      refine gX8_13 cx dX8_reads_61 ?_
      refine z_S1v cx sX8_first kX8_90 (c_X8_first hg σ_53 (by decide) (fun _ => rfl) (by decide) (by decide)) (by decide) (Nat.le_of_ble_eq_true rfl) dX8_reads_64 ?_
      refine z_goto (tgt := 333) cx dX8_reads_67 (by decide) ?_
      exact good _ e0 0 0 _ _ (fun k hk => by rw [upA_ne _ _ (by decide)]; exact y1 k hk) (fun q q1 q2 => by rw [upA_ne _ _ q2]; exact yq q q1) hC j0.2.1 (by rw [hb1]; exact tK) (by rw [upA_at, x2, dOut, if_pos c57])
  refine z_aload_n cx 0 dX8_reads_0 rfl rfl ?_
  refine z_V0i cx vX8_clause kX8_83 (c_X8_clause hg σ hT i0.2 hK) (by decide) hM0 rfl rfl (Nat.le_of_ble_eq_true rfl) dX8_reads_1 ?_
  rw [hcl]
  refine z_istore_n cx 1 dX8_reads_4 rfl hnL (by decide) rfl ?_
  refine z_iload_n cx 1 dX8_reads_5 rfl rfl ?_
  refine z_iconst cx dX8_reads_6 ic_m1 ?_
  refine z_icmp_eq (tgt := 50) cx dX8_reads_7 (by decide) (fun c_7 => ?_) (fun c_7 => ?_)
  · refine z_iconst cx dX8_reads_50 ic_0 ?_
    have c11 : 13 ≤ w := by
      rcases Nat.lt_or_ge w 13 with z | z
      · rw [wdI, if_pos z] at c_7
        exact absurd c_7 (nI_nm1_big (by omega))
      · exact z
    refine z_zret cx hR rfl ⟨_, rfl, ?_, fun _ _ => rfl, fun _ _ _ => rfl⟩ dX8_reads_51
    rw [hC, if_pos c11]
    exact ⟨rfl, hK.1⟩
  · have c11 : w < 13 := by
      rcases Nat.lt_or_ge w 13 with z | z
      · exact z
      · exact absurd (by rw [wdI, if_neg (by omega)]) c_7
    rw [show wdI w = nI w by rw [wdI, if_pos c11]]
    have ev9 : inL (nI w) 1 3 = decide (1 ≤ w ∧ w ≤ 3) := evW_nI hw13
    have bi9 : inL (nI w) 4 7 = decide (4 ≤ w ∧ w ≤ 7) := biW_nI hw13
    refine z_iload_n cx 1 dX8_reads_10 rfl rfl ?_
    refine z_iconst cx dX8_reads_11 ic_1 ?_
    refine z_iconst cx dX8_reads_12 ic_3 ?_
    refine z_S3i cx sX8_in kX8_35 (c_X8_in hg σ _ _ _) (by decide) (Nat.le_of_ble_eq_true rfl) dX8_reads_13 ?_
    refine z_ifb_eq (tgt := 30) cx dX8_reads_16 (by decide) (fun c_16 => ?_) (fun c_16 => ?_)
    · have c16 : ¬ (1 ≤ w ∧ w ≤ 3) := by rw [ev9] at c_16; simpa using c_16
      refine z_iload_n cx 1 dX8_reads_30 rfl rfl ?_
      refine z_iconst cx dX8_reads_31 ic_4 ?_
      refine z_bipush cx dX8_reads_32 bi_7 ?_
      refine z_S3i cx sX8_in kX8_35 (c_X8_in hg σ _ _ _) (by decide) (Nat.le_of_ble_eq_true rfl) dX8_reads_34 ?_
      refine z_ifb_eq (tgt := 52) cx dX8_reads_37 (by decide) (fun c_37 => ?_) (fun c_37 => ?_)
      · have c37 : ¬ (4 ≤ w ∧ w ≤ 7) := by rw [bi9] at c_37; simpa using c_37
        exact rest9 c11 (rmF_of (fun z => by omega) (fun z => by omega))
      · have c37 : (4 ≤ w ∧ w ≤ 7) := by rw [bi9] at c_37; simpa using c_37
        refine z_aload_n cx 0 dX8_reads_40 rfl rfl ?_
        refine gX8_13 cx dX8_reads_41 ?_
        refine z_iconst cx dX8_reads_44 ic_1 ?_
        refine g_ialdN cx 1 (by decide) (fun _ => rfl) rfl (by omega) (by decide) dX8_reads_45 ?_
        refine z_iconst cx dX8_reads_46 ic_5 ?_
        rw [eB]
        refine z_icmp_ne (tgt := 52) cx dX8_reads_47 (by decide) (fun c_47 => ?_) (fun c_47 => ?_)
        · have c47 : ¬ B = 5 := fun z => c_47 (by rw [z]; rfl)
          exact rest9 c11 (rmF_of (fun z => by omega) (fun z => by omega))
        · have c47 : B = 5 := (nI_eq (b := 5) (by omega) (by decide)).mp c_47
          refine z_iconst cx dX8_reads_50 ic_0 ?_
          refine z_zret cx hR rfl ⟨_, rfl, ?_, fun _ _ => rfl, fun _ _ _ => rfl⟩ dX8_reads_51
          rw [hC, if_neg (by omega), if_pos (by rw [rmF, if_neg (by omega), if_pos c37]; simp; omega)]
          exact ⟨rfl, hK.1⟩
    · have c16 : (1 ≤ w ∧ w ≤ 3) := by rw [ev9] at c_16; simpa using c_16
      refine z_aload_n cx 0 dX8_reads_19 rfl rfl ?_
      refine gX8_13 cx dX8_reads_20 ?_
      refine z_iconst cx dX8_reads_23 ic_0 ?_
      refine g_ialdN cx 0 (by decide) (fun _ => rfl) rfl (by omega) (by decide) dX8_reads_24 ?_
      refine z_bipush cx dX8_reads_25 bi_7 ?_
      rw [eE]
      refine z_icmp_eq (tgt := 50) cx dX8_reads_27 (by decide) (fun c_27 => ?_) (fun c_27 => ?_)
      · have c27 : E = 7 := (nI_eq (b := 7) (by omega) (by decide)).mp c_27
        refine z_iconst cx dX8_reads_50 ic_0 ?_
        refine z_zret cx hR rfl ⟨_, rfl, ?_, fun _ _ => rfl, fun _ _ _ => rfl⟩ dX8_reads_51
        rw [hC, if_neg (by omega), if_pos (by rw [rmF, if_pos c16]; simp; omega)]
        exact ⟨rfl, hK.1⟩
      · have c27 : ¬ E = 7 := fun z => c_27 (by rw [z]; rfl)
        refine z_iload_n cx 1 dX8_reads_30 rfl rfl ?_
        refine z_iconst cx dX8_reads_31 ic_4 ?_
        refine z_bipush cx dX8_reads_32 bi_7 ?_
        refine z_S3i cx sX8_in kX8_35 (c_X8_in hg σ _ _ _) (by decide) (Nat.le_of_ble_eq_true rfl) dX8_reads_34 ?_
        refine z_ifb_eq (tgt := 52) cx dX8_reads_37 (by decide) (fun c_37 => ?_) (fun c_37 => ?_)
        · have c37 : ¬ (4 ≤ w ∧ w ≤ 7) := by rw [bi9] at c_37; simpa using c_37
          exact rest9 c11 (rmF_of (fun z => by omega) (fun z => by omega))
        · have c37 : (4 ≤ w ∧ w ≤ 7) := by rw [bi9] at c_37; simpa using c_37
          refine z_aload_n cx 0 dX8_reads_40 rfl rfl ?_
          refine gX8_13 cx dX8_reads_41 ?_
          refine z_iconst cx dX8_reads_44 ic_1 ?_
          refine g_ialdN cx 1 (by decide) (fun _ => rfl) rfl (by omega) (by decide) dX8_reads_45 ?_
          refine z_iconst cx dX8_reads_46 ic_5 ?_
          rw [eB]
          refine z_icmp_ne (tgt := 52) cx dX8_reads_47 (by decide) (fun c_47 => ?_) (fun c_47 => ?_)
          · have c47 : ¬ B = 5 := fun z => c_47 (by rw [z]; rfl)
            exact rest9 c11 (rmF_of (fun z => by omega) (fun z => by omega))
          · have c47 : B = 5 := (nI_eq (b := 5) (by omega) (by decide)).mp c_47
            refine z_iconst cx dX8_reads_50 ic_0 ?_
            refine z_zret cx hR rfl ⟨_, rfl, ?_, fun _ _ => rfl, fun _ _ _ => rfl⟩ dX8_reads_51
            rw [hC, if_neg (by omega), if_pos (by rw [rmF, if_neg (by omega), if_pos c37]; simp; omega)]
            exact ⟨rfl, hK.1⟩
