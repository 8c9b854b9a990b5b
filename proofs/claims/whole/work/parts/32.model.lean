set_option maxRecDepth 100000 in
set_option maxHeartbeats 4000000 in
theorem c_X8_name {l : Launch} {g : Gx} (hg : ApG 9 g.ad) (σ : Mem) (a b c e : Int32) : Ct l (OM g) 0 mX8_name [.int a, .int b, .int c, .int e] σ (some (.long (nmL a b c e))) σ := by
  refine ct_of (lv := [some (.int a), some (.int b), some (.int c), some (.int e)]) (okM hg) (by decide +kernel) (Nat.le_of_ble_eq_true rfl) (fun ls h => lvh_entry h rfl 0) ?_
  intro κ hl hnL cx hR
  subst hl
  have cx : Cx κ (OM g) RX8 cX8_name 0 := cx
  have hnL : κ.nL = 4 := hnL
  refine z_ldc2 cx qX8_64 dX8_name_0 ?_
  refine z_ldc2 cx qX8_64 dX8_name_3 ?_
  refine z_ldc2 cx qX8_64 dX8_name_6 ?_
  refine z_iload_n cx 0 dX8_name_9 rfl rfl ?_
  refine z_i2l cx dX8_name_10 ?_
  refine z_lmul cx dX8_name_11 ?_
  refine z_iload_n cx 1 dX8_name_12 rfl rfl ?_
  refine z_i2l cx dX8_name_13 ?_
  refine z_ladd cx dX8_name_14 ?_
  refine z_lmul cx dX8_name_15 ?_
  refine z_iload_n cx 2 dX8_name_16 rfl rfl ?_
  refine z_i2l cx dX8_name_17 ?_
  refine z_ladd cx dX8_name_18 ?_
  refine z_lmul cx dX8_name_19 ?_
  refine z_iload_n cx 3 dX8_name_20 rfl rfl ?_
  refine z_i2l cx dX8_name_21 ?_
  refine z_ladd cx dX8_name_22 ?_
  exact z_lret cx hR ⟨rfl, rfl⟩ dX8_name_23
set_option maxRecDepth 100000 in
set_option maxHeartbeats 4000000 in
theorem c_X8_longer {l : Launch} {g : Gx} (hg : ApG 9 g.ad) (σ : Mem) (v : Int64) (a b c : Int32) : Ct l (OM g) 0 mX8_longer [.long v, .int a, .int b, .int c] σ (some (.long (lgL v a b c))) σ := by
  refine ct_of (lv := [some (.long v), none, some (.int a), some (.int b), some (.int c), none, none]) (okM hg) (by decide +kernel) (Nat.le_of_ble_eq_true rfl) (fun ls h => ⟨h.1, h.2.1, fun i w hi => ?_⟩) ?_
  · match i, hi with
    | 0, hi => have e := Option.some.inj (Option.some.inj hi); subst e; exact h.2.2 (0, .long v) (List.mem_of_getElem? (i := 0) rfl)
    | 1, hi => exact absurd (Option.some.inj hi) (fun z => by cases z)
    | 2, hi => have e := Option.some.inj (Option.some.inj hi); subst e; exact h.2.2 (2, .int a) (List.mem_of_getElem? (i := 1) rfl)
    | 3, hi => have e := Option.some.inj (Option.some.inj hi); subst e; exact h.2.2 (3, .int b) (List.mem_of_getElem? (i := 2) rfl)
    | 4, hi => have e := Option.some.inj (Option.some.inj hi); subst e; exact h.2.2 (4, .int c) (List.mem_of_getElem? (i := 3) rfl)
    | 5, hi => exact absurd (Option.some.inj hi) (fun z => by cases z)
    | 6, hi => exact absurd (Option.some.inj hi) (fun z => by cases z)
    | n + 7, hi => simp at hi
  intro κ hl hnL cx hR
  subst hl
  have cx : Cx κ (OM g) RX8 cX8_longer 0 := cx
  have hnL : κ.nL = 7 := hnL
  refine z_ldc2 cx qX8_64 dX8_longer_0 ?_
  refine z_lload_n cx 0 dX8_longer_3 rfl rfl ?_
  refine z_lmul cx dX8_longer_4 ?_
  refine z_iload_n cx 2 dX8_longer_5 rfl rfl ?_
  refine z_i2l cx dX8_longer_6 ?_
  refine z_ladd cx dX8_longer_7 ?_
  refine z_lstore cx dX8_longer_8 hnL (by decide) rfl ?_
  refine z_iload_n cx 3 dX8_longer_10 rfl rfl ?_
  refine z_if_ne (tgt := 19) cx dX8_longer_11 (by decide) (fun c_11 => ?_) (fun c_11 => ?_)
  · refine z_ldc2 cx qX8_64 dX8_longer_19 ?_
    refine z_lload cx dX8_longer_22 rfl ?_
    refine z_lmul cx dX8_longer_24 ?_
    refine z_iload_n cx 3 dX8_longer_25 rfl rfl ?_
    refine z_i2l cx dX8_longer_26 ?_
    refine z_ladd cx dX8_longer_27 ?_
    refine z_lstore cx dX8_longer_28 hnL (by decide) rfl ?_
    refine z_iload cx dX8_longer_30 rfl ?_
    refine z_if_ne (tgt := 40) cx dX8_longer_32 (by decide) (fun c_32 => ?_) (fun c_32 => ?_)
    · refine z_ldc2 cx qX8_64 dX8_longer_40 ?_
      refine z_lload cx dX8_longer_43 rfl ?_
      refine z_lmul cx dX8_longer_45 ?_
      refine z_iload cx dX8_longer_46 rfl ?_
      refine z_i2l cx dX8_longer_48 ?_
      refine z_ladd cx dX8_longer_49 ?_
      exact z_lret cx hR ⟨by simp only [lgL, c_11, c_32, if_true, if_false], rfl⟩ dX8_longer_50
    · refine z_lload cx dX8_longer_35 rfl ?_
      refine z_goto (tgt := 50) cx dX8_longer_37 (by decide) ?_
      exact z_lret cx hR ⟨by simp only [lgL, c_11, c_32, if_true, if_false], rfl⟩ dX8_longer_50
  · refine z_lload cx dX8_longer_14 rfl ?_
    refine z_goto (tgt := 28) cx dX8_longer_16 (by decide) ?_
    refine z_lstore cx dX8_longer_28 hnL (by decide) rfl ?_
    refine z_iload cx dX8_longer_30 rfl ?_
    refine z_if_ne (tgt := 40) cx dX8_longer_32 (by decide) (fun c_32 => ?_) (fun c_32 => ?_)
    · refine z_ldc2 cx qX8_64 dX8_longer_40 ?_
      refine z_lload cx dX8_longer_43 rfl ?_
      refine z_lmul cx dX8_longer_45 ?_
      refine z_iload cx dX8_longer_46 rfl ?_
      refine z_i2l cx dX8_longer_48 ?_
      refine z_ladd cx dX8_longer_49 ?_
      exact z_lret cx hR ⟨by simp only [lgL, c_11, c_32, if_true, if_false], rfl⟩ dX8_longer_50
    · refine z_lload cx dX8_longer_35 rfl ?_
      refine z_goto (tgt := 50) cx dX8_longer_37 (by decide) ?_
      exact z_lret cx hR ⟨by simp only [lgL, c_11, c_32, if_true, if_false], rfl⟩ dX8_longer_50
set_option maxRecDepth 100000 in
set_option maxHeartbeats 4000000 in
theorem c_X8_word {l : Launch} {g : Gx} (hg : ApG 9 g.ad) (σ : Mem) {L b : Nat} (hT : TxH σ L) (hb : b ≤ L) (hK : TkQ σ (σ 6) L b) : Ct l (OM g) 1 mX8_word [.ref (g.ad 0)] σ (some (.long (wdV (σ 6) L b))) σ := by
  refine ct_of (lv := [some (.ref (g.ad 0)), none, none, none]) (okM hg) (by decide +kernel) (Nat.le_of_ble_eq_true rfl) (fun ls h => lvh_entry h rfl 3) ?_
  intro κ hl hnL cx hR
  subst hl
  have cx : Cx κ (OM g) RX8 cX8_word 1 := cx
  have hnL : κ.nL = 4 := hnL
  obtain ⟨hL, eL, hpos⟩ := hT
  obtain ⟨k12, k11, k13, k14⟩ := hK
  have hE := tkE_in (tx := σ 6) hb
  have loop : mso (lat (σ 6) L b) = 1 → ¬ 8 < tkE (σ 6) L b - b → ∀ (c i : Nat), tkE (σ 6) L b - b + 1 ≤ i + c → i ≤ tkE (σ 6) L b - b → Z κ (OM g) σ 25 [some (.ref (g.ad 0)), some (.long (wv (σ 6) b i)), none, some (.int (nI i))] [] := by
    intro q1 q2 c
    induction c with
    | zero => intro i h1 h2; exact absurd h1 (by omega)
    | succ c ih =>
      intro i h1 h2
      refine z_iload_n cx 3 dX8_word_25 rfl rfl ?_
      refine z_aload_n cx 0 dX8_word_26 rfl rfl ?_
      refine gX8_53 cx dX8_word_27 ?_
      rw [k13]
      refine z_icmp_ge (tgt := 61) cx dX8_word_30 (by decide) (fun c_30 => ?_) (fun c_30 => ?_)
      · rw [nI_leI (by omega) (by omega)] at c_30
        have e9 : i = tkE (σ 6) L b - b := by omega
        subst e9
        refine z_lload_n cx 1 dX8_word_61 rfl rfl ?_
        exact z_lret cx hR ⟨by rw [wdV, if_neg (Decidable.not_not.mpr q1), if_neg q2], rfl⟩ dX8_word_62
      · rw [nI_leI (by omega) (by omega)] at c_30
        refine z_ldc2 cx qX8_64 dX8_word_33 ?_
        refine z_lload_n cx 1 dX8_word_36 rfl rfl ?_
        refine z_lmul cx dX8_word_37 ?_
        refine z_aload_n cx 0 dX8_word_38 rfl rfl ?_
        refine z_aload_n cx 0 dX8_word_39 rfl rfl ?_
        refine gX8_50 cx dX8_word_40 ?_
        refine z_iload_n cx 3 dX8_word_43 rfl rfl ?_
        refine z_iadd cx dX8_word_44 ?_
        rw [show σ 0 12 + nI i = nI (b + i) by rw [k12, nI_add]]
        refine z_V1i cx vX8_letterAt kX8_46 (c_X8_letterAt hg σ hL eL (i := b + i) (by omega)) (by decide) hM0 rfl rfl (Nat.le_of_ble_eq_true rfl) dX8_word_45 ?_
        rw [show lat (σ 6) L (b + i) = σ 6 (b + i) by rw [lat, if_pos (by omega)]]
        refine z_i2l cx dX8_word_48 ?_
        refine z_ladd cx dX8_word_49 ?_
        refine z_ldc2 cx qX8_66 dX8_word_50 ?_
        refine z_lsub cx dX8_word_53 ?_
        refine z_lstore_n cx 1 dX8_word_54 rfl hnL (by decide) rfl ?_
        refine z_iinc cx dX8_word_55 rfl ic_1 (nI_1 i) hnL (by decide) rfl ?_
        refine z_goto (tgt := 25) cx dX8_word_58 (by decide) ?_
        exact ih (i + 1) (by omega) (by omega)
  refine z_aload_n cx 0 dX8_word_0 rfl rfl ?_
  refine gX8_59 cx dX8_word_1 ?_
  refine z_iconst cx dX8_word_4 ic_1 ?_
  rw [k14]
  refine z_icmp_ne (tgt := 17) cx dX8_word_5 (by decide) (fun c_5 => ?_) (fun c_5 => ?_)
  · refine z_ldc2 cx qX8_62 dX8_word_17 ?_
    exact z_lret cx hR ⟨by rw [wdV, if_pos c_5], rfl⟩ dX8_word_20
  · refine z_aload_n cx 0 dX8_word_8 rfl rfl ?_
    refine gX8_53 cx dX8_word_9 ?_
    refine z_bipush cx dX8_word_12 bi_8 ?_
    rw [k13]
    refine z_icmp_le (tgt := 21) cx dX8_word_14 (by decide) (fun c_14 => ?_) (fun c_14 => ?_)
    · have c14 : ¬ 8 < tkE (σ 6) L b - b := Nat.not_lt.mpr ((nI_leI (b := 8) (by omega) (by decide)).mp c_14)
      refine z_lconst (v := 0) cx dX8_word_21 rfl ?_
      refine z_lstore_n cx 1 dX8_word_22 rfl hnL (by decide) rfl ?_
      refine z_iconst cx dX8_word_23 ic_0 ?_
      refine z_istore_n cx 3 dX8_word_24 rfl hnL (by decide) rfl ?_
      exact loop c_5 c14 (tkE (σ 6) L b - b + 1) 0 (by omega) (by omega)
    · have c14 : 8 < tkE (σ 6) L b - b := Nat.not_le.mp (fun z => c_14 ((nI_leI (b := 8) (by omega) (by decide)).mpr z))
      refine z_ldc2 cx qX8_62 dX8_word_17 ?_
      exact z_lret cx hR ⟨by rw [wdV, if_neg (Decidable.not_not.mpr c_5), if_pos c14], rfl⟩ dX8_word_20
set_option maxRecDepth 100000 in
set_option maxHeartbeats 4000000 in
theorem c_X8_clause {l : Launch} {g : Gx} (hg : ApG 9 g.ad) (σ : Mem) {L b : Nat} (hT : TxH σ L) (hb : b ≤ L) (hK : TkQ σ (σ 6) L b) : Ct l (OM g) 2 mX8_clause [.ref (g.ad 0)] σ (some (.int (clI (wdV (σ 6) L b)))) σ := by
  refine ct_of (lv := [some (.ref (g.ad 0)), none, none, none, none, none, none]) (okM hg) (by decide +kernel) (Nat.le_of_ble_eq_true rfl) (fun ls h => lvh_entry h rfl 6) ?_
  intro κ hl hnL cx hR
  subst hl
  have cx : Cx κ (OM g) RX8 cX8_clause 2 := cx
  have hnL : κ.nL = 7 := hnL
  generalize hv : wdV (σ 6) L b = v at hR
  have t337 : ¬ v = kW0 → ∀ r : Int32, r = ruF v → Z κ (OM g) σ 337 [some (.ref (g.ad 0)), some (.long v), none, some (.int (evF v)), some (.int (biF v)), none, none] [.int r] := by
    intro h0 r hr
    subst hr
    refine z_istore cx dX8_clause_337 hnL (by decide) rfl ?_
    refine z_iload_n cx 3 dX8_clause_339 rfl rfl ?_
    refine z_iload cx dX8_clause_340 rfl ?_
    refine z_iadd cx dX8_clause_342 ?_
    refine z_iload cx dX8_clause_343 rfl ?_
    refine z_iadd cx dX8_clause_345 ?_
    refine z_istore cx dX8_clause_346 hnL (by decide) rfl ?_
    refine z_iload cx dX8_clause_348 rfl ?_
    refine z_if_ne (tgt := 357) cx dX8_clause_350 (by decide) (fun c_350 => ?_) (fun c_350 => ?_)
    · refine z_iload cx dX8_clause_357 rfl ?_
      exact z_iret cx hR ⟨by rw [clI, if_neg h0, if_neg c_350], rfl⟩ dX8_clause_359
    · refine z_iconst cx dX8_clause_353 ic_m1 ?_
      refine z_goto (tgt := 359) cx dX8_clause_354 (by decide) ?_
      exact z_iret cx hR ⟨by rw [clI, if_neg h0, if_pos c_350], rfl⟩ dX8_clause_359
  have t198 : ¬ v = kW0 → ∀ r : Int32, r = biF v → Z κ (OM g) σ 198 [some (.ref (g.ad 0)), some (.long v), none, some (.int (evF v)), none, none, none] [.int r] := by
    intro h0 r hr
    subst hr
    refine z_istore cx dX8_clause_198 hnL (by decide) rfl ?_
    refine z_lload_n cx 1 dX8_clause_200 rfl rfl ?_
    refine z_bipush cx dX8_clause_201 bi_6 ?_
    refine z_bipush cx dX8_clause_203 bi_9 ?_
    refine z_bipush cx dX8_clause_205 bi_18 ?_
    refine z_bipush cx dX8_clause_207 bi_19 ?_
    refine z_S4i cx sX8_name kX8_72 (c_X8_name hg σ _ _ _ _) (by decide) (Nat.le_of_ble_eq_true rfl) dX8_clause_209 ?_
    refine z_bipush cx dX8_clause_212 bi_20 ?_
    refine z_iconst cx dX8_clause_214 ic_0 ?_
    refine z_iconst cx dX8_clause_215 ic_0 ?_
    refine z_S4i cx sX8_longer kX8_76 (c_X8_longer hg σ _ _ _ _) (by decide) (Nat.le_of_ble_eq_true rfl) dX8_clause_216 ?_
    refine z_lcmp cx dX8_clause_219 ?_
    refine z_if_ne (tgt := 228) cx dX8_clause_220 (by decide) (fun c_220 => ?_) (fun c_220 => ?_)
    · rw [lg_cmp_eq] at c_220
      refine z_lload_n cx 1 dX8_clause_228 rfl rfl ?_
      refine z_bipush cx dX8_clause_229 bi_19 ?_
      refine z_iconst cx dX8_clause_231 ic_5 ?_
      refine z_iconst cx dX8_clause_232 ic_3 ?_
      refine z_bipush cx dX8_clause_233 bi_15 ?_
      refine z_S4i cx sX8_name kX8_72 (c_X8_name hg σ _ _ _ _) (by decide) (Nat.le_of_ble_eq_true rfl) dX8_clause_235 ?_
      refine z_bipush cx dX8_clause_238 bi_14 ?_
      refine z_iconst cx dX8_clause_240 ic_4 ?_
      refine z_iconst cx dX8_clause_241 ic_0 ?_
      refine z_S4i cx sX8_longer kX8_76 (c_X8_longer hg σ _ _ _ _) (by decide) (Nat.le_of_ble_eq_true rfl) dX8_clause_242 ?_
      refine z_lcmp cx dX8_clause_245 ?_
      refine z_if_ne (tgt := 254) cx dX8_clause_246 (by decide) (fun c_246 => ?_) (fun c_246 => ?_)
      · rw [lg_cmp_eq] at c_246
        refine z_lload_n cx 1 dX8_clause_254 rfl rfl ?_
        refine z_bipush cx dX8_clause_255 bi_18 ?_
        refine z_iconst cx dX8_clause_257 ic_5 ?_
        refine z_bipush cx dX8_clause_258 bi_19 ?_
        refine z_iconst cx dX8_clause_260 ic_5 ?_
        refine z_S4i cx sX8_name kX8_72 (c_X8_name hg σ _ _ _ _) (by decide) (Nat.le_of_ble_eq_true rfl) dX8_clause_261 ?_
        refine z_bipush cx dX8_clause_264 bi_18 ?_
        refine z_bipush cx dX8_clause_266 bi_22 ?_
        refine z_iconst cx dX8_clause_268 ic_5 ?_
        refine z_S4i cx sX8_longer kX8_76 (c_X8_longer hg σ _ _ _ _) (by decide) (Nat.le_of_ble_eq_true rfl) dX8_clause_269 ?_
        refine z_lcmp cx dX8_clause_272 ?_
        refine z_if_ne (tgt := 281) cx dX8_clause_273 (by decide) (fun c_273 => ?_) (fun c_273 => ?_)
        · rw [lg_cmp_eq] at c_273
          refine z_lload_n cx 1 dX8_clause_281 rfl rfl ?_
          refine z_bipush cx dX8_clause_282 bi_18 ?_
          refine z_iconst cx dX8_clause_284 ic_5 ?_
          refine z_bipush cx dX8_clause_285 bi_6 ?_
          refine z_bipush cx dX8_clause_287 bi_21 ?_
          refine z_S4i cx sX8_name kX8_72 (c_X8_name hg σ _ _ _ _) (by decide) (Nat.le_of_ble_eq_true rfl) dX8_clause_289 ?_
          refine z_bipush cx dX8_clause_292 bi_14 ?_
          refine z_iconst cx dX8_clause_294 ic_4 ?_
          refine z_iconst cx dX8_clause_295 ic_0 ?_
          refine z_S4i cx sX8_longer kX8_76 (c_X8_longer hg σ _ _ _ _) (by decide) (Nat.le_of_ble_eq_true rfl) dX8_clause_296 ?_
          refine z_lcmp cx dX8_clause_299 ?_
          refine z_if_ne (tgt := 308) cx dX8_clause_300 (by decide) (fun c_300 => ?_) (fun c_300 => ?_)
          · rw [lg_cmp_eq] at c_300
            refine z_lload_n cx 1 dX8_clause_308 rfl rfl ?_
            refine z_bipush cx dX8_clause_309 bi_14 ?_
            refine z_bipush cx dX8_clause_311 bi_9 ?_
            refine z_bipush cx dX8_clause_313 bi_7 ?_
            refine z_bipush cx dX8_clause_315 bi_8 ?_
            refine z_S4i cx sX8_name kX8_72 (c_X8_name hg σ _ _ _ _) (by decide) (Nat.le_of_ble_eq_true rfl) dX8_clause_317 ?_
            refine z_bipush cx dX8_clause_320 bi_20 ?_
            refine z_iconst cx dX8_clause_322 ic_0 ?_
            refine z_iconst cx dX8_clause_323 ic_0 ?_
            refine z_S4i cx sX8_longer kX8_76 (c_X8_longer hg σ _ _ _ _) (by decide) (Nat.le_of_ble_eq_true rfl) dX8_clause_324 ?_
            refine z_lcmp cx dX8_clause_327 ?_
            refine z_if_ne (tgt := 336) cx dX8_clause_328 (by decide) (fun c_328 => ?_) (fun c_328 => ?_)
            · rw [lg_cmp_eq] at c_328
              refine z_iconst cx dX8_clause_336 ic_0 ?_
              exact t337 h0 _ (by rw [ruF, if_neg c_220, if_neg c_246, if_neg c_273, if_neg c_300, if_neg c_328])
            · rw [lg_cmp_eq] at c_328
              refine z_bipush cx dX8_clause_331 bi_12 ?_
              refine z_goto (tgt := 337) cx dX8_clause_333 (by decide) ?_
              exact t337 h0 _ (by rw [ruF, if_neg c_220, if_neg c_246, if_neg c_273, if_neg c_300, if_pos c_328])
          · rw [lg_cmp_eq] at c_300
            refine z_bipush cx dX8_clause_303 bi_11 ?_
            refine z_goto (tgt := 337) cx dX8_clause_305 (by decide) ?_
            exact t337 h0 _ (by rw [ruF, if_neg c_220, if_neg c_246, if_neg c_273, if_pos c_300])
        · rw [lg_cmp_eq] at c_273
          refine z_bipush cx dX8_clause_276 bi_10 ?_
          refine z_goto (tgt := 337) cx dX8_clause_278 (by decide) ?_
          exact t337 h0 _ (by rw [ruF, if_neg c_220, if_neg c_246, if_pos c_273])
      · rw [lg_cmp_eq] at c_246
        refine z_bipush cx dX8_clause_249 bi_9 ?_
        refine z_goto (tgt := 337) cx dX8_clause_251 (by decide) ?_
        exact t337 h0 _ (by rw [ruF, if_neg c_220, if_pos c_246])
    · rw [lg_cmp_eq] at c_220
      refine z_bipush cx dX8_clause_223 bi_8 ?_
      refine z_goto (tgt := 337) cx dX8_clause_225 (by decide) ?_
      exact t337 h0 _ (by rw [ruF, if_pos c_220])
  have t100 : ¬ v = kW0 → ∀ r : Int32, r = evF v → Z κ (OM g) σ 100 [some (.ref (g.ad 0)), some (.long v), none, none, none, none, none] [.int r] := by
    intro h0 r hr
    subst hr
    refine z_istore_n cx 3 dX8_clause_100 rfl hnL (by decide) rfl ?_
    refine z_lload_n cx 1 dX8_clause_101 rfl rfl ?_
    refine z_bipush cx dX8_clause_102 bi_16 ?_
    refine z_bipush cx dX8_clause_104 bi_12 ?_
    refine z_iconst cx dX8_clause_106 ic_1 ?_
    refine z_bipush cx dX8_clause_107 bi_9 ?_
    refine z_S4i cx sX8_name kX8_72 (c_X8_name hg σ _ _ _ _) (by decide) (Nat.le_of_ble_eq_true rfl) dX8_clause_109 ?_
    refine z_bipush cx dX8_clause_112 bi_14 ?_
    refine z_iconst cx dX8_clause_114 ic_0 ?_
    refine z_iconst cx dX8_clause_115 ic_0 ?_
    refine z_S4i cx sX8_longer kX8_76 (c_X8_longer hg σ _ _ _ _) (by decide) (Nat.le_of_ble_eq_true rfl) dX8_clause_116 ?_
    refine z_lcmp cx dX8_clause_119 ?_
    refine z_if_ne (tgt := 127) cx dX8_clause_120 (by decide) (fun c_120 => ?_) (fun c_120 => ?_)
    · rw [lg_cmp_eq] at c_120
      refine z_lload_n cx 1 dX8_clause_127 rfl rfl ?_
      refine z_iconst cx dX8_clause_128 ic_2 ?_
      refine z_bipush cx dX8_clause_129 bi_12 ?_
      refine z_bipush cx dX8_clause_131 bi_9 ?_
      refine z_bipush cx dX8_clause_133 bi_14 ?_
      refine z_S4i cx sX8_name kX8_72 (c_X8_name hg σ _ _ _ _) (by decide) (Nat.le_of_ble_eq_true rfl) dX8_clause_135 ?_
      refine z_iconst cx dX8_clause_138 ic_4 ?_
      refine z_iconst cx dX8_clause_139 ic_0 ?_
      refine z_iconst cx dX8_clause_140 ic_0 ?_
      refine z_S4i cx sX8_longer kX8_76 (c_X8_longer hg σ _ _ _ _) (by decide) (Nat.le_of_ble_eq_true rfl) dX8_clause_141 ?_
      refine z_lcmp cx dX8_clause_144 ?_
      refine z_if_ne (tgt := 152) cx dX8_clause_145 (by decide) (fun c_145 => ?_) (fun c_145 => ?_)
      · rw [lg_cmp_eq] at c_145
        refine z_lload_n cx 1 dX8_clause_152 rfl rfl ?_
        refine z_bipush cx dX8_clause_153 bi_19 ?_
        refine z_bipush cx dX8_clause_155 bi_9 ?_
        refine z_iconst cx dX8_clause_157 ic_3 ?_
        refine z_bipush cx dX8_clause_158 bi_11 ?_
        refine z_S4i cx sX8_name kX8_72 (c_X8_name hg σ _ _ _ _) (by decide) (Nat.le_of_ble_eq_true rfl) dX8_clause_160 ?_
        refine z_lcmp cx dX8_clause_163 ?_
        refine z_if_ne (tgt := 172) cx dX8_clause_164 (by decide) (fun c_164 => ?_) (fun c_164 => ?_)
        · rw [lg_cmp_eq] at c_164
          refine z_lload_n cx 1 dX8_clause_172 rfl rfl ?_
          refine z_iconst cx dX8_clause_173 ic_4 ?_
          refine z_iconst cx dX8_clause_174 ic_5 ?_
          refine z_iconst cx dX8_clause_175 ic_1 ?_
          refine z_bipush cx dX8_clause_176 bi_12 ?_
          refine z_S4i cx sX8_name kX8_72 (c_X8_name hg σ _ _ _ _) (by decide) (Nat.le_of_ble_eq_true rfl) dX8_clause_178 ?_
          refine z_iconst cx dX8_clause_181 ic_5 ?_
          refine z_bipush cx dX8_clause_182 bi_18 ?_
          refine z_iconst cx dX8_clause_184 ic_0 ?_
          refine z_S4i cx sX8_longer kX8_76 (c_X8_longer hg σ _ _ _ _) (by decide) (Nat.le_of_ble_eq_true rfl) dX8_clause_185 ?_
          refine z_lcmp cx dX8_clause_188 ?_
          refine z_if_ne (tgt := 197) cx dX8_clause_189 (by decide) (fun c_189 => ?_) (fun c_189 => ?_)
          · rw [lg_cmp_eq] at c_189
            refine z_iconst cx dX8_clause_197 ic_0 ?_
            exact t198 h0 _ (by rw [biF, if_neg c_120, if_neg c_145, if_neg c_164, if_neg c_189])
          · rw [lg_cmp_eq] at c_189
            refine z_bipush cx dX8_clause_192 bi_7 ?_
            refine z_goto (tgt := 198) cx dX8_clause_194 (by decide) ?_
            exact t198 h0 _ (by rw [biF, if_neg c_120, if_neg c_145, if_neg c_164, if_pos c_189])
        · rw [lg_cmp_eq] at c_164
          refine z_bipush cx dX8_clause_167 bi_6 ?_
          refine z_goto (tgt := 198) cx dX8_clause_169 (by decide) ?_
          exact t198 h0 _ (by rw [biF, if_neg c_120, if_neg c_145, if_pos c_164])
      · rw [lg_cmp_eq] at c_145
        refine z_iconst cx dX8_clause_148 ic_5 ?_
        refine z_goto (tgt := 198) cx dX8_clause_149 (by decide) ?_
        exact t198 h0 _ (by rw [biF, if_neg c_120, if_pos c_145])
    · rw [lg_cmp_eq] at c_120
      refine z_iconst cx dX8_clause_123 ic_4 ?_
      refine z_goto (tgt := 198) cx dX8_clause_124 (by decide) ?_
      exact t198 h0 _ (by rw [biF, if_pos c_120])
  refine z_aload_n cx 0 dX8_clause_0 rfl rfl ?_
  refine z_V0i cx vX8_word kX8_68 (c_X8_word hg σ hT hb hK) (by decide) hM0 rfl rfl (Nat.le_of_ble_eq_true rfl) dX8_clause_1 ?_
  rw [hv]
  refine z_lstore_n cx 1 dX8_clause_4 rfl hnL (by decide) rfl ?_
  refine z_lload_n cx 1 dX8_clause_5 rfl rfl ?_
  refine z_bipush cx dX8_clause_6 bi_23 ?_
  refine z_iconst cx dX8_clause_8 ic_5 ?_
  refine z_bipush cx dX8_clause_9 bi_19 ?_
  refine z_bipush cx dX8_clause_11 bi_20 ?_
  refine z_S4i cx sX8_name kX8_72 (c_X8_name hg σ _ _ _ _) (by decide) (Nat.le_of_ble_eq_true rfl) dX8_clause_13 ?_
  refine z_lcmp cx dX8_clause_16 ?_
  refine z_if_ne (tgt := 22) cx dX8_clause_17 (by decide) (fun c_17 => ?_) (fun c_17 => ?_)
  · rw [lg_cmp_eq] at c_17
    refine z_lload_n cx 1 dX8_clause_22 rfl rfl ?_
    refine z_iconst cx dX8_clause_23 ic_3 ?_
    refine z_bipush cx dX8_clause_24 bi_12 ?_
    refine z_iconst cx dX8_clause_26 ic_5 ?_
    refine z_iconst cx dX8_clause_27 ic_1 ?_
    refine z_S4i cx sX8_name kX8_72 (c_X8_name hg σ _ _ _ _) (by decide) (Nat.le_of_ble_eq_true rfl) dX8_clause_28 ?_
    refine z_bipush cx dX8_clause_31 bi_18 ?_
    refine z_iconst cx dX8_clause_33 ic_0 ?_
    refine z_iconst cx dX8_clause_34 ic_0 ?_
    refine z_S4i cx sX8_longer kX8_76 (c_X8_longer hg σ _ _ _ _) (by decide) (Nat.le_of_ble_eq_true rfl) dX8_clause_35 ?_
    refine z_lcmp cx dX8_clause_38 ?_
    refine z_if_ne (tgt := 46) cx dX8_clause_39 (by decide) (fun c_39 => ?_) (fun c_39 => ?_)
    · rw [lg_cmp_eq] at c_39
      refine z_lload_n cx 1 dX8_clause_46 rfl rfl ?_
      refine z_iconst cx dX8_clause_47 ic_3 ?_
      refine z_bipush cx dX8_clause_48 bi_12 ?_
      refine z_bipush cx dX8_clause_50 bi_15 ?_
      refine z_bipush cx dX8_clause_52 bi_21 ?_
      refine z_S4i cx sX8_name kX8_72 (c_X8_name hg σ _ _ _ _) (by decide) (Nat.le_of_ble_eq_true rfl) dX8_clause_54 ?_
      refine z_iconst cx dX8_clause_57 ic_4 ?_
      refine z_bipush cx dX8_clause_58 bi_25 ?_
      refine z_iconst cx dX8_clause_60 ic_0 ?_
      refine z_S4i cx sX8_longer kX8_76 (c_X8_longer hg σ _ _ _ _) (by decide) (Nat.le_of_ble_eq_true rfl) dX8_clause_61 ?_
      refine z_lcmp cx dX8_clause_64 ?_
      refine z_if_ne (tgt := 72) cx dX8_clause_65 (by decide) (fun c_65 => ?_) (fun c_65 => ?_)
      · rw [lg_cmp_eq] at c_65
        refine z_lload_n cx 1 dX8_clause_72 rfl rfl ?_
        refine z_bipush cx dX8_clause_73 bi_19 ?_
        refine z_bipush cx dX8_clause_75 bi_13 ?_
        refine z_bipush cx dX8_clause_77 bi_15 ?_
        refine z_bipush cx dX8_clause_79 bi_11 ?_
        refine z_S4i cx sX8_name kX8_72 (c_X8_name hg σ _ _ _ _) (by decide) (Nat.le_of_ble_eq_true rfl) dX8_clause_81 ?_
        refine z_bipush cx dX8_clause_84 bi_25 ?_
        refine z_iconst cx dX8_clause_86 ic_0 ?_
        refine z_iconst cx dX8_clause_87 ic_0 ?_
        refine z_S4i cx sX8_longer kX8_76 (c_X8_longer hg σ _ _ _ _) (by decide) (Nat.le_of_ble_eq_true rfl) dX8_clause_88 ?_
        refine z_lcmp cx dX8_clause_91 ?_
        refine z_if_ne (tgt := 99) cx dX8_clause_92 (by decide) (fun c_92 => ?_) (fun c_92 => ?_)
        · rw [lg_cmp_eq] at c_92
          refine z_iconst cx dX8_clause_99 ic_0 ?_
          have h0 : ¬ v = kW0 := c_17
          exact t100 h0 _ (by rw [evF, if_neg c_39, if_neg c_65, if_neg c_92])
        · rw [lg_cmp_eq] at c_92
          refine z_iconst cx dX8_clause_95 ic_3 ?_
          refine z_goto (tgt := 100) cx dX8_clause_96 (by decide) ?_
          have h0 : ¬ v = kW0 := c_17
          exact t100 h0 _ (by rw [evF, if_neg c_39, if_neg c_65, if_pos c_92])
      · rw [lg_cmp_eq] at c_65
        refine z_iconst cx dX8_clause_68 ic_2 ?_
        refine z_goto (tgt := 100) cx dX8_clause_69 (by decide) ?_
        have h0 : ¬ v = kW0 := c_17
        exact t100 h0 _ (by rw [evF, if_neg c_39, if_pos c_65])
    · rw [lg_cmp_eq] at c_39
      refine z_iconst cx dX8_clause_42 ic_1 ?_
      refine z_goto (tgt := 100) cx dX8_clause_43 (by decide) ?_
      have h0 : ¬ v = kW0 := c_17
      exact t100 h0 _ (by rw [evF, if_pos c_39])
  · rw [lg_cmp_eq] at c_17
    refine z_iconst cx dX8_clause_20 ic_0 ?_
    exact z_iret cx hR ⟨by rw [clI, if_pos c_17], rfl⟩ dX8_clause_21
def nmF (tx : Nat → Int32) (b e : Nat) : Int32 := if e - b = 2 then 10 * (tx b - 48) + tx (b + 1) - 48 else tx b - 48
theorem nmT_F (tx : Nat → Int32) (b e : Nat) (top : Int32) : nmT tx b e top = if e - b < 1 ∨ 2 < e - b ∨ ¬ srt (tx b) = 2 then -1 else if top < nmF tx b e then -1 else nmF tx b e := by
  unfold nmT nmF
  split
  · rfl
  · split <;> rfl
theorem nmF_val {tx : Nat → Int32} {L b : Nat} (bL : b < L) (h2 : srt (tx b) = 2) (h3 : ¬ 2 < tkE tx L b - b) : ∃ v, v ≤ 99 ∧ nmF tx b (tkE tx L b) = nI v := by
  have hE := tkE_in (tx := tx) (Nat.le_of_lt bL)
  obtain ⟨k, hk, ek⟩ := srt2 h2
  have f1 : tx b - 48 = nI k := by rw [ek]; exact (pk_sub (a := 48 + k) (b := 48) (by omega)).trans (by congr 1; omega)
  unfold nmF
  split
  · obtain ⟨k2, hk2, ek2⟩ := srt2 ((tkE_run (x := b + 1) bL (by rw [h2]; decide) (by omega) (by omega)).trans h2)
    refine ⟨10 * k + k2, by omega, ?_⟩
    rw [f1, ek2, show (10 : Int32) = nI 10 from rfl, pk_mul, nI_add]
    exact (pk_sub (b := 48) (by omega)).trans (by congr 1; omega)
  · exact ⟨k, by omega, f1⟩
def OffN (μ' μ : Mem) : Prop := (∀ k, k ≠ 15 → μ' 0 k = μ 0 k) ∧ ∀ q, q ≠ 0 → μ' q = μ q
set_option maxRecDepth 100000 in
set_option maxHeartbeats 4000000 in
theorem c_X8_isNumber {l : Launch} {g : Gx} (hg : ApG 9 g.ad) (σ : Mem) {L b : Nat} (hT : TxH σ L) (hb : b ≤ L) (hK : TkQ σ (σ 6) L b) (top : Int32) : CtI l (OM g) 1 mX8_isNumber [.ref (g.ad 0), .int top] σ (fun v σ' => v = bI (!decide (nmT (σ 6) b (tkE (σ 6) L b) top = -1)) ∧ (¬ nmT (σ 6) b (tkE (σ 6) L b) top = -1 → σ' 0 15 = nmT (σ 6) b (tkE (σ 6) L b) top) ∧ OffN σ' σ) := by
  refine ct_of (lv := [some (.ref (g.ad 0)), some (.int top)]) (okM hg) (by decide +kernel) (Nat.le_of_ble_eq_true rfl) (fun ls h => lvh_entry h rfl 0) ?_
  intro κ hl hnL cx hR
  subst hl
  have cx : Cx κ (OM g) RX8 cX8_isNumber 1 := cx
  have hnL : κ.nL = 2 := hnL
  obtain ⟨hL, eL, hpos⟩ := hT
  obtain ⟨k12, k11, k13, k14⟩ := hK
  have hE := tkE_in (tx := σ 6) hb
  have tail : b < L → srt (σ 6 b) = 2 → ¬ 2 < tkE (σ 6) L b - b → Z κ (OM g) σ 69 [some (.ref (g.ad 0)), some (.int top)] [.int (nmF (σ 6) b (tkE (σ 6) L b)), .ref (g.ad 0)] := by
    intro bL s2 q2
    obtain ⟨v, hv, ev⟩ := nmF_val bL s2 q2
    have hT9 : nmT (σ 6) b (tkE (σ 6) L b) top = if top < nmF (σ 6) b (tkE (σ 6) L b) then -1 else nmF (σ 6) b (tkE (σ 6) L b) := by
      rw [nmT_F, if_neg]
      rintro (z | z | z)
      · omega
      · exact q2 z
      · exact z s2
    have hne : ¬ nmF (σ 6) b (tkE (σ 6) L b) = -1 := by rw [ev]; exact nI_nm1_big (by omega)
    refine pX8_80 cx dX8_isNumber_69 ?_
    refine z_aload_n cx 0 dX8_isNumber_72 rfl rfl ?_
    refine gX8_80 cx dX8_isNumber_73 ?_
    refine z_iload_n cx 1 dX8_isNumber_76 rfl rfl ?_
    refine z_icmp_gt (tgt := 84) cx dX8_isNumber_77 (by decide) (fun c_77 => ?_) (fun c_77 => ?_)
    · have c_77 : top < nmF (σ 6) b (tkE (σ 6) L b) := c_77
      refine z_iconst cx dX8_isNumber_84 ic_0 ?_
      exact z_zret cx hR rfl ⟨_, rfl, by rw [hT9, if_pos c_77]; rfl, fun z => absurd (by rw [hT9, if_pos c_77]) z, fun k hk => by rw [up2_at, upd_ne _ _ hk], fun q hq => by rw [up2_ne _ _ _ hq]⟩ dX8_isNumber_85
    · have c_77 : ¬ top < nmF (σ 6) b (tkE (σ 6) L b) := c_77
      refine z_iconst cx dX8_isNumber_80 ic_1 ?_
      refine z_goto (tgt := 85) cx dX8_isNumber_81 (by decide) ?_
      exact z_zret cx hR rfl ⟨_, rfl, by rw [hT9, if_neg c_77]; simp [hne, bI], fun _ => by rw [hT9, if_neg c_77]; rfl, fun k hk => by rw [up2_at, upd_ne _ _ hk], fun q hq => by rw [up2_ne _ _ _ hq]⟩ dX8_isNumber_85
  refine z_aload_n cx 0 dX8_isNumber_0 rfl rfl ?_
  refine gX8_59 cx dX8_isNumber_1 ?_
  refine z_iconst cx dX8_isNumber_4 ic_2 ?_
  rw [k14]
  refine z_icmp_ne (tgt := 16) cx dX8_isNumber_5 (by decide) (fun c_5 => ?_) (fun c_5 => ?_)
  · refine z_iconst cx dX8_isNumber_16 ic_0 ?_
    have hn : nmT (σ 6) b (tkE (σ 6) L b) top = -1 := by
      rw [nmT_F]
      by_cases q : b < L
      · rw [if_pos (Or.inr (Or.inr (fun z => c_5 (by rw [lat, if_pos q]; exact (mso_2 (hpos b q)).mpr z))))]
      · rw [if_pos (Or.inl (by rw [tkE, if_neg q]; omega))]
    exact z_zret cx hR rfl ⟨_, rfl, by rw [hn]; rfl, fun z => absurd hn z, fun _ _ => rfl, fun _ _ => rfl⟩ dX8_isNumber_17
  · have bL : b < L := by
      by_cases q : b < L
      · exact q
      · rw [lat, if_neg q, mso_m1] at c_5; exact absurd c_5 (by decide)
    have s2 : srt (σ 6 b) = 2 := by rw [lat, if_pos bL] at c_5; exact (mso_2 (hpos b bL)).mp c_5
    have lb : lat (σ 6) L b = σ 6 b := by rw [lat, if_pos bL]
    refine z_aload_n cx 0 dX8_isNumber_8 rfl rfl ?_
    refine gX8_53 cx dX8_isNumber_9 ?_
    refine z_iconst cx dX8_isNumber_12 ic_2 ?_
    rw [k13]
    refine z_icmp_le (tgt := 18) cx dX8_isNumber_13 (by decide) (fun c_13 => ?_) (fun c_13 => ?_)
    · have c13 : ¬ 2 < tkE (σ 6) L b - b := Nat.not_lt.mpr ((nI_leI (b := 2) (by omega) (by decide)).mp c_13)
      refine z_aload_n cx 0 dX8_isNumber_18 rfl rfl ?_
      refine z_aload_n cx 0 dX8_isNumber_19 rfl rfl ?_
      refine gX8_53 cx dX8_isNumber_20 ?_
      refine z_iconst cx dX8_isNumber_23 ic_1 ?_
      rw [k13]
      refine z_icmp_ne (tgt := 41) cx dX8_isNumber_24 (by decide) (fun c_24 => ?_) (fun c_24 => ?_)
      · have c24 : ¬ tkE (σ 6) L b - b = 1 := fun z => c_24 (by rw [z]; rfl)
        have e2 : tkE (σ 6) L b - b = 2 := by omega
        refine z_bipush cx dX8_isNumber_41 bi_10 ?_
        refine z_aload_n cx 0 dX8_isNumber_43 rfl rfl ?_
        refine z_aload_n cx 0 dX8_isNumber_44 rfl rfl ?_
        refine gX8_50 cx dX8_isNumber_45 ?_
        rw [k12]
        refine z_V1i cx vX8_letterAt kX8_46 (c_X8_letterAt hg σ hL eL (i := b) (by omega)) (by decide) hM0 rfl rfl (Nat.le_of_ble_eq_true rfl) dX8_isNumber_48 ?_
        rw [lb]
        refine z_bipush cx dX8_isNumber_51 bi_48 ?_
        refine z_isub cx dX8_isNumber_53 ?_
        refine z_imul cx dX8_isNumber_54 ?_
        refine z_aload_n cx 0 dX8_isNumber_55 rfl rfl ?_
        refine z_aload_n cx 0 dX8_isNumber_56 rfl rfl ?_
        refine gX8_50 cx dX8_isNumber_57 ?_
        refine z_iconst cx dX8_isNumber_60 ic_1 ?_
        refine z_iadd cx dX8_isNumber_61 ?_
        rw [show σ 0 12 + 1 = nI (b + 1) by rw [k12, nI_1]]
        refine z_V1i cx vX8_letterAt kX8_46 (c_X8_letterAt hg σ hL eL (i := b + 1) (by omega)) (by decide) hM0 rfl rfl (Nat.le_of_ble_eq_true rfl) dX8_isNumber_62 ?_
        rw [show lat (σ 6) L (b + 1) = σ 6 (b + 1) by rw [lat, if_pos (by omega)]]
        refine z_iadd cx dX8_isNumber_65 ?_
        refine z_bipush cx dX8_isNumber_66 bi_48 ?_
        refine z_isub cx dX8_isNumber_68 ?_
        exact z_eq rfl rfl (by rw [nmF, if_pos e2]) (tail bL s2 c13)
      · have c24 : tkE (σ 6) L b - b = 1 := (nI_eq (b := 1) (by omega) (by decide)).mp c_24
        refine z_aload_n cx 0 dX8_isNumber_27 rfl rfl ?_
        refine z_aload_n cx 0 dX8_isNumber_28 rfl rfl ?_
        refine gX8_50 cx dX8_isNumber_29 ?_
        rw [k12]
        refine z_V1i cx vX8_letterAt kX8_46 (c_X8_letterAt hg σ hL eL (i := b) (by omega)) (by decide) hM0 rfl rfl (Nat.le_of_ble_eq_true rfl) dX8_isNumber_32 ?_
        rw [lb]
        refine z_bipush cx dX8_isNumber_35 bi_48 ?_
        refine z_isub cx dX8_isNumber_37 ?_
        refine z_goto (tgt := 69) cx dX8_isNumber_38 (by decide) ?_
        exact z_eq rfl rfl (by rw [nmF, if_neg (by omega)]) (tail bL s2 c13)
    · have c13 : 2 < tkE (σ 6) L b - b := Nat.not_le.mp (fun z => c_13 ((nI_leI (b := 2) (by omega) (by decide)).mpr z))
      refine z_iconst cx dX8_isNumber_16 ic_0 ?_
      have hn : nmT (σ 6) b (tkE (σ 6) L b) top = -1 := by
        rw [nmT_F, if_pos (Or.inr (Or.inl c13))]
      exact z_zret cx hR rfl ⟨_, rfl, by rw [hn]; rfl, fun z => absurd hn z, fun _ _ => rfl, fun _ _ => rfl⟩ dX8_isNumber_17
set_option maxRecDepth 100000 in
set_option maxHeartbeats 4000000 in
theorem c_X8_first {l : Launch} {g : Gx} (hg : ApG 9 g.ad) (σ : Mem) {q n : Nat} (hq : q < 9) (hE : ∀ f, mE g q f = .inl (g.cI, n, .inl f)) (hn : n ≤ 1000) (hn2 : 100 ≤ n) : Ct l (OM g) 0 mX8_first [.ref (g.ad q)] σ none (upA σ q (flF 100 0 (σ q))) := by
  refine ct_of (lv := [some (.ref (g.ad q)), none]) (okM hg) (by decide +kernel) (Nat.le_of_ble_eq_true rfl) (fun ls h => lvh_entry h rfl 1) ?_
  intro κ hl hnL cx hR
  subst hl
  have cx : Cx κ (OM g) RX8 cX8_first 0 := cx
  have hnL : κ.nL = 2 := hnL
  have loop : ∀ (k i : Nat), 100 + 1 ≤ i + k → i ≤ 100 → Z κ (OM g) (upA σ q (flF i 0 (σ q))) 2 [some (.ref (g.ad q)), some (.int (nI i))] [] := by
    intro k
    induction k with
    | zero => intro i h1 h2; exact absurd h1 (by omega)
    | succ k ih =>
      intro i h1 h2
      refine z_iload_n cx 1 dX8_first_2 rfl rfl ?_
      refine z_bipush cx dX8_first_3 bi_100 ?_
      refine z_icmp_ge (tgt := 18) cx dX8_first_5 (by decide) (fun c_5 => ?_) (fun c_5 => ?_)
      · have c5 := (nI_leI (a := 100) (by decide) (by omega)).mp c_5
        have e9 : i = 100 := by omega
        subst e9
        exact z_vret cx hR ⟨rfl, rfl⟩ dX8_first_18
      · have c5 : ¬ 100 ≤ i := fun z => c_5 ((nI_leI (a := 100) (by decide) (by omega)).mpr z)
        refine z_aload_n cx 0 dX8_first_8 rfl rfl ?_
        refine z_iload_n cx 1 dX8_first_9 rfl rfl ?_
        refine z_iconst cx dX8_first_10 ic_0 ?_
        refine g_iastN cx i hq hE rfl (by omega) hn dX8_first_11 ?_
        refine z_iinc cx dX8_first_12 rfl ic_1 (nI_1 i) hnL (by decide) rfl ?_
        refine z_goto (tgt := 2) cx dX8_first_15 (by decide) ?_
        exact z_eq (by rw [up2_upA, flF_s]) rfl rfl (ih (i + 1) (by omega) (by omega))
  refine z_iconst cx dX8_first_0 ic_0 ?_
  refine z_istore_n cx 1 dX8_first_1 rfl hnL (by decide) rfl ?_
  exact z_eq (by rw [flF_0, upA_self]) rfl rfl (loop 101 0 (by omega) (by omega))
