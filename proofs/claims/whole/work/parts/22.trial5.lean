/-! Trial: findBest whole, settling, sums of changed trials -/
def fb0 (T : Tst) : Tst := uD (uZ (uM (uC (uBr (uBs T (-1000000)) (nI 0)) (pre (fun _ => 0) (cT T) 4)) (pre (fun _ => nhV (vT T) + 1) (mT T) 4)) 4) (upS (dT T) 0 (oT T))
def fbT (T : Tst) (p : Nat) : Tst := fbF p 7776 (fb0 T) 0
theorem fb0_v (T : Tst) : vT (fb0 T) = vT T ∧ xT (fb0 T) = xT T ∧ pT (fb0 T) = pT T ∧ lT (fb0 T) = lT T ∧ oT (fb0 T) = oT T ∧ sT (fb0 T) = sT T ∧ wT (fb0 T) = wT T ∧ zT (fb0 T) = 4 ∧ cT (fb0 T) = pre (fun _ => 0) (cT T) 4 ∧ mT (fb0 T) = pre (fun _ => nhV (vT T) + 1) (mT T) 4 ∧ dT (fb0 T) = upS (dT T) 0 (oT T) ∧ bsT (fb0 T) = -1000000 ∧ brT (fb0 T) = nI 0 := by
  unfold fb0
  simp only [jv_v, jv_x, jv_p, jv_l, jv_o, jv_s, jv_w, jv_c, jv_m, jv_z, jv_g, jv_k, jv_bs, jv_br, jv_rg, jv_lr, jv_d, jx_v, jx_x, jx_p, jx_l, jx_o, jx_s, jx_w, jx_c, jx_m, jx_z, jx_g, jx_k, jx_bs, jx_br, jx_rg, jx_lr, jx_d, jp_v, jp_x, jp_p, jp_l, jp_o, jp_s, jp_w, jp_c, jp_m, jp_z, jp_g, jp_k, jp_bs, jp_br, jp_rg, jp_lr, jp_d, jl_v, jl_x, jl_p, jl_l, jl_o, jl_s, jl_w, jl_c, jl_m, jl_z, jl_g, jl_k, jl_bs, jl_br, jl_rg, jl_lr, jl_d, jo_v, jo_x, jo_p, jo_l, jo_o, jo_s, jo_w, jo_c, jo_m, jo_z, jo_g, jo_k, jo_bs, jo_br, jo_rg, jo_lr, jo_d, js_v, js_x, js_p, js_l, js_o, js_s, js_w, js_c, js_m, js_z, js_g, js_k, js_bs, js_br, js_rg, js_lr, js_d, jw_v, jw_x, jw_p, jw_l, jw_o, jw_s, jw_w, jw_c, jw_m, jw_z, jw_g, jw_k, jw_bs, jw_br, jw_rg, jw_lr, jw_d, jc_v, jc_x, jc_p, jc_l, jc_o, jc_s, jc_w, jc_c, jc_m, jc_z, jc_g, jc_k, jc_bs, jc_br, jc_rg, jc_lr, jc_d, jm_v, jm_x, jm_p, jm_l, jm_o, jm_s, jm_w, jm_c, jm_m, jm_z, jm_g, jm_k, jm_bs, jm_br, jm_rg, jm_lr, jm_d, jz_v, jz_x, jz_p, jz_l, jz_o, jz_s, jz_w, jz_c, jz_m, jz_z, jz_g, jz_k, jz_bs, jz_br, jz_rg, jz_lr, jz_d, jg_v, jg_x, jg_p, jg_l, jg_o, jg_s, jg_w, jg_c, jg_m, jg_z, jg_g, jg_k, jg_bs, jg_br, jg_rg, jg_lr, jg_d, jk_v, jk_x, jk_p, jk_l, jk_o, jk_s, jk_w, jk_c, jk_m, jk_z, jk_g, jk_k, jk_bs, jk_br, jk_rg, jk_lr, jk_d, jbs_v, jbs_x, jbs_p, jbs_l, jbs_o, jbs_s, jbs_w, jbs_c, jbs_m, jbs_z, jbs_g, jbs_k, jbs_bs, jbs_br, jbs_rg, jbs_lr, jbs_d, jbr_v, jbr_x, jbr_p, jbr_l, jbr_o, jbr_s, jbr_w, jbr_c, jbr_m, jbr_z, jbr_g, jbr_k, jbr_bs, jbr_br, jbr_rg, jbr_lr, jbr_d, jrg_v, jrg_x, jrg_p, jrg_l, jrg_o, jrg_s, jrg_w, jrg_c, jrg_m, jrg_z, jrg_g, jrg_k, jrg_bs, jrg_br, jrg_rg, jrg_lr, jrg_d, jlr_v, jlr_x, jlr_p, jlr_l, jlr_o, jlr_s, jlr_w, jlr_c, jlr_m, jlr_z, jlr_g, jlr_k, jlr_bs, jlr_br, jlr_rg, jlr_lr, jlr_d, jd_v, jd_x, jd_p, jd_l, jd_o, jd_s, jd_w, jd_c, jd_m, jd_z, jd_g, jd_k, jd_bs, jd_br, jd_rg, jd_lr, jd_d, and_self]
theorem fb0_FI {T : Tst} {p : Nat} (h : Tok T) (hp : p < npV (vT T)) : FI (fb0 T) p 0 := by
  have v1 := h.1.1
  obtain ⟨a1, a2, a3, a4, a5, a6, a7, a8, a9, a10, a11, -⟩ := fb0_v T
  generalize fb0 T = F at *
  obtain ⟨h1, h2, h3, h4⟩ := h
  refine ⟨by rw [a1]; exact h1, by rw [a3]; exact h2, by rw [a1]; exact hp, by rw [a5]; exact h4, a8, fun k hk => ⟨?_, ?_⟩, Or.inr (by decide), fun k hk _ => ?_⟩
  · rw [a9, pre_n hk]; decide
  · rw [a10, pre_n hk]; omega
  · have h0 : k = 0 := by omega
    subst h0
    have hd : dT F 0 = oT T := by rw [a11]; rfl
    exact ⟨by rw [a1, hd]; exact h3, by rw [hd, a5]; rfl⟩
set_option maxHeartbeats 4000000 in
set_option maxRecDepth 100000 in
theorem c_findBest (E : EnvT) (ad : Nat → Nat) (T : Tst) (p : Nat) (hT : Tok T) (hp : p < npV (vT T)) : Md E mX6_findBest ad [.ref (ad 0), .int (nI p)] (trC E ad 0 T) none (trC E ad 0 (fbT T p)) := by
  have hF := fb0_FI hT hp
  have v1 := hT.1.1
  have hL := c_findBest_loop E ad p 7776 0 (fb0 T) 0 rfl hF
  unfold fbT
  generalize fbF p 7776 (fb0 T) 0 = TE at hL ⊢
  clear hF
  have hw : trC E ad 0 (fb0 T) = trX E ad 0 (vT T) (xT T) (pT T) (lT T) (oT T) (sT T) (wT T) (pre (fun _ => 0) (cT T) 4) (pre (fun _ => nhV (vT T) + 1) (mT T) 4) 4 (gT T) (kT T) (-1000000) (nI 0) (rgT T) (lrT T) (oT T) (dT T 1) (dT T 2) (dT T 3) (dT T 4) := by
    unfold trC fb0
    simp only [jv_v, jv_x, jv_p, jv_l, jv_o, jv_s, jv_w, jv_c, jv_m, jv_z, jv_g, jv_k, jv_bs, jv_br, jv_rg, jv_lr, jv_d, jx_v, jx_x, jx_p, jx_l, jx_o, jx_s, jx_w, jx_c, jx_m, jx_z, jx_g, jx_k, jx_bs, jx_br, jx_rg, jx_lr, jx_d, jp_v, jp_x, jp_p, jp_l, jp_o, jp_s, jp_w, jp_c, jp_m, jp_z, jp_g, jp_k, jp_bs, jp_br, jp_rg, jp_lr, jp_d, jl_v, jl_x, jl_p, jl_l, jl_o, jl_s, jl_w, jl_c, jl_m, jl_z, jl_g, jl_k, jl_bs, jl_br, jl_rg, jl_lr, jl_d, jo_v, jo_x, jo_p, jo_l, jo_o, jo_s, jo_w, jo_c, jo_m, jo_z, jo_g, jo_k, jo_bs, jo_br, jo_rg, jo_lr, jo_d, js_v, js_x, js_p, js_l, js_o, js_s, js_w, js_c, js_m, js_z, js_g, js_k, js_bs, js_br, js_rg, js_lr, js_d, jw_v, jw_x, jw_p, jw_l, jw_o, jw_s, jw_w, jw_c, jw_m, jw_z, jw_g, jw_k, jw_bs, jw_br, jw_rg, jw_lr, jw_d, jc_v, jc_x, jc_p, jc_l, jc_o, jc_s, jc_w, jc_c, jc_m, jc_z, jc_g, jc_k, jc_bs, jc_br, jc_rg, jc_lr, jc_d, jm_v, jm_x, jm_p, jm_l, jm_o, jm_s, jm_w, jm_c, jm_m, jm_z, jm_g, jm_k, jm_bs, jm_br, jm_rg, jm_lr, jm_d, jz_v, jz_x, jz_p, jz_l, jz_o, jz_s, jz_w, jz_c, jz_m, jz_z, jz_g, jz_k, jz_bs, jz_br, jz_rg, jz_lr, jz_d, jg_v, jg_x, jg_p, jg_l, jg_o, jg_s, jg_w, jg_c, jg_m, jg_z, jg_g, jg_k, jg_bs, jg_br, jg_rg, jg_lr, jg_d, jk_v, jk_x, jk_p, jk_l, jk_o, jk_s, jk_w, jk_c, jk_m, jk_z, jk_g, jk_k, jk_bs, jk_br, jk_rg, jk_lr, jk_d, jbs_v, jbs_x, jbs_p, jbs_l, jbs_o, jbs_s, jbs_w, jbs_c, jbs_m, jbs_z, jbs_g, jbs_k, jbs_bs, jbs_br, jbs_rg, jbs_lr, jbs_d, jbr_v, jbr_x, jbr_p, jbr_l, jbr_o, jbr_s, jbr_w, jbr_c, jbr_m, jbr_z, jbr_g, jbr_k, jbr_bs, jbr_br, jbr_rg, jbr_lr, jbr_d, jrg_v, jrg_x, jrg_p, jrg_l, jrg_o, jrg_s, jrg_w, jrg_c, jrg_m, jrg_z, jrg_g, jrg_k, jrg_bs, jrg_br, jrg_rg, jrg_lr, jrg_d, jlr_v, jlr_x, jlr_p, jlr_l, jlr_o, jlr_s, jlr_w, jlr_c, jlr_m, jlr_z, jlr_g, jlr_k, jlr_bs, jlr_br, jlr_rg, jlr_lr, jlr_d, jd_v, jd_x, jd_p, jd_l, jd_o, jd_s, jd_w, jd_c, jd_m, jd_z, jd_g, jd_k, jd_bs, jd_br, jd_rg, jd_lr, jd_d]
    rfl
  rw [hw] at hL
  clear hw
  obtain ⟨V, X, P, L, O, S, W, ch, mo, z, G, K, bs, br, rg, lr, D⟩ := T
  have v1 : nhV V ≤ 5 := v1
  show Md E _ ad _ (trX E ad 0 V X P L O S W ch mo z G K bs br rg lr (D 0) (D 1) (D 2) (D 3) (D 4)) none (trC E ad 0 TE)
  have hL : Tr _ 0 0 45 _ [] (trX E ad 0 V X P L O S W (pre (fun _ => 0) ch 4) (pre (fun _ => nhV V + 1) mo 4) 4 G K (-1000000) (nI 0) rg lr O (D 1) (D 2) (D 3) (D 4)) := hL
  refine Md.of 3 (by decide) rfl rfl ?_
  refine Tr.aload_n (i := 0) dX6_findBest_0 rfl rfl (Eq.refl 1) ?_
  refine Tr.ldc dX6_findBest_1 qX6_96 (Eq.refl 3) ?_
  refine Tr.putf dX6_findBest_3 pX6_97 rfl (rfl) (rfl) rfl (Eq.refl 6) ?_
  refine Tr.aload_n (i := 0) dX6_findBest_6 rfl rfl (Eq.refl 7) ?_
  refine Tr.iconst (v := nI 0) dX6_findBest_7 (icN 0) (Eq.refl 8) ?_
  refine Tr.putf dX6_findBest_8 pX6_100 rfl (rfl) (rfl) rfl (Eq.refl 11) ?_
  refine Tr.aload_n (i := 0) dX6_findBest_11 rfl rfl (Eq.refl 12) ?_
  refine Tr.getf dX6_findBest_12 fX6_46 rfl rfl (Eq.refl 15) ?_
  refine Tr.iconst (v := nI 4) dX6_findBest_15 (icN 4) (Eq.refl 16) ?_
  refine Tr.aload_n (i := 0) dX6_findBest_16 rfl rfl (Eq.refl 17) ?_
  refine Tr.getf dX6_findBest_17 fX6_12 rfl rfl (Eq.refl 20) ?_
  refine Tr.getf dX6_findBest_20 fX6_71 rfl rfl (Eq.refl 23) ?_
  refine Tr.iconst (v := nI 1) dX6_findBest_23 (icN 1) (Eq.refl 24) ?_
  refine Tr.iaddN dX6_findBest_24 (Eq.refl 25) ?_
  refine Tr.callV (L := [31, 32, 33]) (c_chBegin E _ ch mo z 4 (nhV V + 1) (by decide)) dX6_findBest_25 (kX6_103 (Nat.le_of_ble_eq_true rfl)) iX0_begin rfl rfl rfl rfl rfl rfl rfl rfl rfl rfl (Eq.refl 28) ?_
  refine Tr.pic (w' := trX E ad 0 V X P L O S W (pre (fun _ => 0) ch 4) (pre (fun _ => nhV V + 1) mo 4) 4 G K (-1000000) (nI 0) rg lr (D 0) (D 1) (D 2) (D 3) (D 4)) (putB_eq (Lc := [0, 1, 2, 3, 4, 5, 6, 7, 8, 9, 10, 11, 12, 13, 14, 15, 16, 17, 18, 19, 20, 21, 22, 23, 24, 25, 26, 27, 28, 29, 30, 34, 35, 36, 37, 38, 39, 40, 41, 42, 43, 44, 45, 46, 47, 48, 49, 50, 51, 52, 53, 54, 55, 56, 57, 58, 59, 60, 61, 62, 63, 64, 65, 66, 67, 68, 69, 70]) 71 rfl rfl rfl rfl ⟨⟨_, rfl, rfl⟩, ⟨_, rfl, rfl⟩, ⟨_, rfl, rfl⟩, ⟨_, rfl, rfl⟩, ⟨_, rfl, rfl⟩, ⟨_, rfl, rfl⟩, ⟨_, rfl, rfl⟩, ⟨_, rfl, rfl⟩, ⟨_, rfl, rfl⟩, ⟨_, rfl, rfl⟩, ⟨_, rfl, rfl⟩, ⟨_, rfl, rfl⟩, ⟨_, rfl, rfl⟩, ⟨_, rfl, rfl⟩, ⟨_, rfl, rfl⟩, ⟨_, rfl, rfl⟩, ⟨_, rfl, rfl⟩, ⟨_, rfl, rfl⟩, ⟨_, rfl, rfl⟩, ⟨_, rfl, rfl⟩, ⟨_, rfl, rfl⟩, ⟨_, rfl, rfl⟩, ⟨_, rfl, rfl⟩, ⟨_, rfl, rfl⟩, ⟨_, rfl, rfl⟩, ⟨_, rfl, rfl⟩, ⟨_, rfl, rfl⟩, ⟨_, rfl, rfl⟩, ⟨_, rfl, rfl⟩, ⟨_, rfl, rfl⟩, ⟨_, rfl, rfl⟩, ⟨_, rfl, rfl⟩, ⟨_, rfl, rfl⟩, ⟨_, rfl, rfl⟩, ⟨_, rfl, rfl⟩, ⟨_, rfl, rfl⟩, ⟨_, rfl, rfl⟩, ⟨_, rfl, rfl⟩, ⟨_, rfl, rfl⟩, ⟨_, rfl, rfl⟩, ⟨_, rfl, rfl⟩, ⟨_, rfl, rfl⟩, ⟨_, rfl, rfl⟩, ⟨_, rfl, rfl⟩, ⟨_, rfl, rfl⟩, ⟨_, rfl, rfl⟩, ⟨_, rfl, rfl⟩, ⟨_, rfl, rfl⟩, ⟨_, rfl, rfl⟩, ⟨_, rfl, rfl⟩, ⟨_, rfl, rfl⟩, ⟨_, rfl, rfl⟩, ⟨_, rfl, rfl⟩, ⟨_, rfl, rfl⟩, ⟨_, rfl, rfl⟩, ⟨_, rfl, rfl⟩, ⟨_, rfl, rfl⟩, ⟨_, rfl, rfl⟩, ⟨_, rfl, rfl⟩, ⟨_, rfl, rfl⟩, ⟨_, rfl, rfl⟩, ⟨_, rfl, rfl⟩, ⟨_, rfl, rfl⟩, ⟨_, rfl, rfl⟩, ⟨_, rfl, rfl⟩, ⟨_, rfl, rfl⟩, ⟨_, rfl, rfl⟩, ⟨_, rfl, rfl⟩, trivial⟩ (by decide) rfl) ?_
  refine Tr.aload_n (i := 0) dX6_findBest_28 rfl rfl (Eq.refl 29) ?_
  refine Tr.getf dX6_findBest_29 fX6_35 rfl rfl (Eq.refl 32) ?_
  refine Tr.iconst (v := nI 0) dX6_findBest_32 (icN 0) (Eq.refl 33) ?_
  refine Tr.aald dX6_findBest_33 rfl rfl (by decide) (by decide) rfl (Eq.refl 34) ?_
  refine Tr.aload_n (i := 0) dX6_findBest_34 rfl rfl (Eq.refl 35) ?_
  refine Tr.getf dX6_findBest_35 fX6_28 rfl rfl (Eq.refl 38) ?_
  refine Tr.callV (L := [36, 37, 38, 39, 40, 41, 42, 15, 16, 17, 18, 19, 20, 21]) (c_scCopy E _ (D 0) O) dX6_findBest_38 (kX6_68 (Nat.le_of_ble_eq_true rfl)) iX3_copyFrom rfl rfl rfl rfl rfl rfl rfl rfl rfl rfl (Eq.refl 41) ?_
  refine Tr.pic (w' := trX E ad 0 V X P L O S W (pre (fun _ => 0) ch 4) (pre (fun _ => nhV V + 1) mo 4) 4 G K (-1000000) (nI 0) rg lr O (D 1) (D 2) (D 3) (D 4)) (putB_eq (Lc := [0, 1, 2, 3, 4, 5, 6, 7, 8, 9, 10, 11, 12, 13, 14, 22, 23, 24, 25, 26, 27, 28, 29, 30, 31, 32, 33, 34, 35, 43, 44, 45, 46, 47, 48, 49, 50, 51, 52, 53, 54, 55, 56, 57, 58, 59, 60, 61, 62, 63, 64, 65, 66, 67, 68, 69, 70]) 71 rfl rfl rfl rfl ⟨⟨_, rfl, rfl⟩, ⟨_, rfl, rfl⟩, ⟨_, rfl, rfl⟩, ⟨_, rfl, rfl⟩, ⟨_, rfl, rfl⟩, ⟨_, rfl, rfl⟩, ⟨_, rfl, rfl⟩, ⟨_, rfl, rfl⟩, ⟨_, rfl, rfl⟩, ⟨_, rfl, rfl⟩, ⟨_, rfl, rfl⟩, ⟨_, rfl, rfl⟩, ⟨_, rfl, rfl⟩, ⟨_, rfl, rfl⟩, ⟨_, rfl, rfl⟩, ⟨_, rfl, rfl⟩, ⟨_, rfl, rfl⟩, ⟨_, rfl, rfl⟩, ⟨_, rfl, rfl⟩, ⟨_, rfl, rfl⟩, ⟨_, rfl, rfl⟩, ⟨_, rfl, rfl⟩, ⟨_, rfl, rfl⟩, ⟨_, rfl, rfl⟩, ⟨_, rfl, rfl⟩, ⟨_, rfl, rfl⟩, ⟨_, rfl, rfl⟩, ⟨_, rfl, rfl⟩, ⟨_, rfl, rfl⟩, ⟨_, rfl, rfl⟩, ⟨_, rfl, rfl⟩, ⟨_, rfl, rfl⟩, ⟨_, rfl, rfl⟩, ⟨_, rfl, rfl⟩, ⟨_, rfl, rfl⟩, ⟨_, rfl, rfl⟩, ⟨_, rfl, rfl⟩, ⟨_, rfl, rfl⟩, ⟨_, rfl, rfl⟩, ⟨_, rfl, rfl⟩, ⟨_, rfl, rfl⟩, ⟨_, rfl, rfl⟩, ⟨_, rfl, rfl⟩, ⟨_, rfl, rfl⟩, ⟨_, rfl, rfl⟩, ⟨_, rfl, rfl⟩, ⟨_, rfl, rfl⟩, ⟨_, rfl, rfl⟩, ⟨_, rfl, rfl⟩, ⟨_, rfl, rfl⟩, ⟨_, rfl, rfl⟩, ⟨_, rfl, rfl⟩, ⟨_, rfl, rfl⟩, ⟨_, rfl, rfl⟩, ⟨_, rfl, rfl⟩, ⟨_, rfl, rfl⟩, ⟨_, rfl, rfl⟩, trivial⟩ (by decide) rfl) ?_
  refine Tr.iconst (v := nI 0) dX6_findBest_41 (icN 0) (Eq.refl 42) ?_
  refine Tr.istore_n (i := 2) dX6_findBest_42 rfl rfl rfl (Eq.refl 43) ?_
  refine Tr.iconst (v := nI 0) dX6_findBest_43 (icN 0) (Eq.refl 44) ?_
  refine Tr.istore_n (i := 3) dX6_findBest_44 rfl rfl rfl (Eq.refl 45) ?_
  exact Tr.mask [true, true, true, true, false] rfl hL
theorem fbF_same (p : Nat) : ∀ (n : Nat) (T : Tst) (c : Nat), vT (fbF p n T c) = vT T ∧ xT (fbF p n T c) = xT T ∧ pT (fbF p n T c) = pT T ∧ lT (fbF p n T c) = lT T ∧ oT (fbF p n T c) = oT T ∧ sT (fbF p n T c) = sT T := by
  intro n
  induction n with
  | zero => intro T c; exact ⟨rfl, rfl, rfl, rfl, rfl, rfl⟩
  | succ n ih =>
    intro T c
    unfold fbF
    split
    · exact ⟨rfl, rfl, rfl, rfl, rfl, rfl⟩
    · obtain ⟨a1, a2, a3, a4, a5, a6⟩ := ih (uC (jdT (dyF T p c (4 - c)) p) (gcF (mT T) (zT T) (cT T)).1) (gcF (mT T) (zT T) (cT T)).2
      obtain ⟨e1, e2, e3, e4, e5, e6, -⟩ := dyF_same T p c (4 - c)
      obtain ⟨j1, j2, j3, j4, j5, j6, -⟩ := jdT_same (dyF T p c (4 - c)) p
      generalize fbF p n (uC (jdT (dyF T p c (4 - c)) p) (gcF (mT T) (zT T) (cT T)).1) (gcF (mT T) (zT T) (cT T)).2 = F at *
      generalize jdT (dyF T p c (4 - c)) p = J at *
      exact ⟨a1.trans (j1.trans e1), a2.trans (j2.trans e2), a3.trans (j3.trans e3), a4.trans (j4.trans e4), a5.trans (j5.trans e5), a6.trans (j6.trans e6)⟩
theorem fbT_same (T : Tst) (p : Nat) : vT (fbT T p) = vT T ∧ xT (fbT T p) = xT T ∧ pT (fbT T p) = pT T ∧ lT (fbT T p) = lT T ∧ oT (fbT T p) = oT T ∧ sT (fbT T p) = sT T := by
  obtain ⟨a1, a2, a3, a4, a5, a6, -⟩ := fb0_v T
  obtain ⟨b1, b2, b3, b4, b5, b6⟩ := fbF_same p 7776 (fb0 T) 0
  unfold fbT
  generalize fbF p 7776 (fb0 T) 0 = F at *
  generalize fb0 T = F0 at *
  exact ⟨b1.trans a1, b2.trans a2, b3.trans a3, b4.trans a4, b5.trans a5, b6.trans a6⟩
theorem fbT_Tok {T : Tst} (p : Nat) (h : Tok T) : Tok (fbT T p) := by
  obtain ⟨e1, e2, e3, e4, e5, e6⟩ := fbT_same T p
  generalize fbT T p = F at *
  obtain ⟨h1, h2, h3, h4⟩ := h
  exact ⟨by rw [e1]; exact h1, by rw [e3]; exact h2, by rw [e1, e5]; exact h3, by rw [e5]; exact h4⟩
theorem rqT_Tok {T : Tst} (n : Nat) (h : Tok T) : Tok (rqT T n) := h
theorem pbF_at (T : Tst) (p : Nat) : ∀ n k, pbF T p n k = if p * 4 ≤ k ∧ k < p * 4 + n then bpl T (k - p * 4) else pT T k := by
  intro n
  induction n with
  | zero => intro k; rw [if_neg (by omega)]; rfl
  | succ n ih =>
    intro k
    show upN (pbF T p n) (p * 4 + n) (bpl T n) k = _
    by_cases h : k = p * 4 + n
    · rw [h, upN_self, if_pos (by omega), show p * 4 + n - p * 4 = n by omega]
    · rw [upN_ne _ _ h, ih k]
      by_cases h2 : p * 4 ≤ k ∧ k < p * 4 + n
      · rw [if_pos h2, if_pos (by omega)]
      · rw [if_neg h2, if_neg (by omega)]
theorem plan_Tok {T : Tst} (p : Nat) (h : Tok T) : Tok (uP T (pbF T p 4)) := by
  refine ⟨h.1, fun k hk => ?_, h.2.2.1, h.2.2.2⟩
  show pbF T p 4 k ≤ 5
  rw [pbF_at]
  split
  · exact plc_le h.1 _
  · exact h.2.1 k hk
/-- one settles: the trial behind it, and whether the plan became another -/
def stP (T : Tst) (p : Nat) : Tst × Bool := if smF T p < bsT (fbT (rqT T 4) p) then (uP (fbT (rqT T 4) p) (pbF (fbT (rqT T 4) p) p 4), true) else (fbT (rqT T 4) p, false)
def rdF (T : Tst) : Nat → Tst × Bool
  | 0 => (T, false)
  | p + 1 => ((stP (rdF T p).1 p).1, (rdF T p).2 || (stP (rdF T p).1 p).2)
def seF : Nat → Nat → Tst → Tst × Int32
  | 0, _, T => (T, -1)
  | n + 1, r, T => if (rdF T (npV (vT T))).2 then seF n (r + 1) (rdF T (npV (vT T))).1 else ((rdF T (npV (vT T))).1, nI r)
theorem stP_ok {T : Tst} (p : Nat) (h : Tok T) : Tok (stP T p).1 ∧ vT (stP T p).1 = vT T ∧ lT (stP T p).1 = lT T ∧ oT (stP T p).1 = oT T := by
  have h1 := fbT_Tok p (rqT_Tok 4 h)
  obtain ⟨e1, e2, e3, e4, e5, e6⟩ := fbT_same (rqT T 4) p
  unfold stP
  split
  · exact ⟨plan_Tok p h1, e1, e4, e5⟩
  · exact ⟨h1, e1, e4, e5⟩
theorem rdF_ok {T : Tst} (h : Tok T) : ∀ n, Tok (rdF T n).1 ∧ vT (rdF T n).1 = vT T ∧ lT (rdF T n).1 = lT T ∧ oT (rdF T n).1 = oT T := by
  intro n
  induction n with
  | zero => exact ⟨h, rfl, rfl, rfl⟩
  | succ n ih =>
    obtain ⟨a1, a2, a3, a4⟩ := ih
    obtain ⟨b1, b2, b3, b4⟩ := stP_ok n a1
    exact ⟨b1, b2.trans a2, b3.trans a3, b4.trans a4⟩
set_option maxHeartbeats 4000000 in
set_option maxRecDepth 100000 in
theorem c_settleAll_loop (E : EnvT) (ad : Nat → Nat) : ∀ (n r : Nat) (T : Tst), r + n = 10 → Tok T → Tr (E, mX6_settleAll, ad, some (.int (seF n r T).2), trC E ad 0 (seF n r T).1) 0 0 2 [some (.ref (ad 0)), some (.int (nI r)), none, none, none] [] (trC E ad 0 T) := by
  intro n
  induction n with
  | zero =>
    intro r T hr hT
    refine Tr.iload_n (i := 1) dX6_settleAll_2 rfl rfl (Eq.refl 3) ?_
    refine Tr.bipush (v := nI 9) dX6_settleAll_3 (by decide +kernel) (Eq.refl 5) ?_
    refine Tr.icmp_gtN (tgt := 69) dX6_settleAll_5 (by decide) (Eq.refl 8) (by omega) (by omega) (fun h5 => ?_) (fun h5 => ?_)
    · refine Tr.iconst (v := (-1)) dX6_settleAll_69 (by decide +kernel) (Eq.refl 70) ?_
      refine Tr.iret dX6_settleAll_70 rfl (by first | rfl | exact bI_nar _) ?_ ?_
      · rfl
      · rfl
    · exact absurd h5 (by omega)
  | succ n ih =>
    intro r T hr hT
    have v2 := hT.1.2.1
    refine Tr.iload_n (i := 1) dX6_settleAll_2 rfl rfl (Eq.refl 3) ?_
    refine Tr.bipush (v := nI 9) dX6_settleAll_3 (by decide +kernel) (Eq.refl 5) ?_
    refine Tr.icmp_gtN (tgt := 69) dX6_settleAll_5 (by decide) (Eq.refl 8) (by omega) (by omega) (fun h5 => ?_) (fun h5 => ?_)
    · exact absurd h5 (by omega)
    · refine Tr.iconst (v := nI 1) dX6_settleAll_8 (icN 1) (Eq.refl 9) ?_
      refine Tr.istore_n (i := 2) dX6_settleAll_9 rfl rfl rfl (Eq.refl 10) ?_
      refine Tr.iconst (v := nI 0) dX6_settleAll_10 (icN 0) (Eq.refl 11) ?_
      refine Tr.istore_n (i := 3) dX6_settleAll_11 rfl rfl rfl (Eq.refl 12) ?_
      refine Tr.mask [true, true, true, true, true] (lv' := [some (.ref (ad 0)), some (.int (nI r)), some (.int (bI (!(rdF T 0).2))), some (.int (nI 0)), none]) rfl ?_
      refine loopD (P := fun i => Tr _ 0 0 12 [some (.ref (ad 0)), some (.int (nI r)), some (.int (bI (!(rdF T i).2))), some (.int (nI i)), none] [] (trC E ad 0 (rdF T i).1)) (npV (vT T)) ?_ (fun i hi ih2 => ?_)
      · obtain ⟨a1, a2, a3, a4⟩ := rdF_ok hT (npV (vT T))
        have a5 : npV (vT (rdF T (npV (vT T))).1) = npV (vT T) := by rw [a2]
        refine Tr.iload_n (i := 3) dX6_settleAll_12 rfl rfl (Eq.refl 13) ?_
        refine Tr.aload_n (i := 0) dX6_settleAll_13 rfl rfl (Eq.refl 14) ?_
        refine Tr.getf dX6_settleAll_14 fX6_12 rfl rfl (Eq.refl 17) ?_
        refine Tr.getf dX6_settleAll_17 fX6_127 rfl rfl (Eq.refl 20) ?_
        rw [a5]
        refine Tr.icmp_geN (tgt := 57) dX6_settleAll_20 (by decide) (Eq.refl 23) (by omega) (by omega) (fun h20 => ?_) (fun h20 => ?_)
        · refine Tr.iload_n (i := 2) dX6_settleAll_57 rfl rfl (Eq.refl 58) ?_
          refine Tr.if_eqB (tgt := 63) dX6_settleAll_58 (by decide) (Eq.refl 61) (fun h58 => ?_) (fun h58 => ?_)
          · have h58 : (rdF T (npV (vT T))).2 = true := by simpa using h58
            refine Tr.iincN dX6_settleAll_63 rfl rfl rfl (Eq.refl 66) ?_
            refine Tr.goto (pc' := 2) dX6_settleAll_66 (by decide) ?_
            rw [show seF (n + 1) r T = seF n (r + 1) (rdF T (npV (vT T))).1 from by rw [seF, h58]; rfl]
            exact Tr.mask [true, true, false, false, false] rfl (ih (r + 1) (rdF T (npV (vT T))).1 (by omega) a1)
          · have h58 : (rdF T (npV (vT T))).2 = false := by simpa using h58
            refine Tr.iload_n (i := 1) dX6_settleAll_61 rfl rfl (Eq.refl 62) ?_
            refine Tr.iret dX6_settleAll_62 rfl (by first | rfl | exact bI_nar _) ?_ ?_
            · rw [seF, h58]; rfl
            · rw [seF, h58]; rfl
        · exact absurd h20 (by omega)
      · obtain ⟨a1, a2, a3, a4⟩ := rdF_ok hT i
        have a5 : npV (vT (rdF T i).1) = npV (vT T) := by rw [a2]
        have b1 := fbT_Tok i (rqT_Tok 4 a1)
        obtain ⟨c1, c2, c3, c4, c5, c6⟩ := fbT_same (rqT (rdF T i).1 4) i
        have b2 : i < npV (vT (fbT (rqT (rdF T i).1 4) i)) := by rw [c1]; show i < npV (vT (rdF T i).1); omega
        refine Tr.iload_n (i := 3) dX6_settleAll_12 rfl rfl (Eq.refl 13) ?_
        refine Tr.aload_n (i := 0) dX6_settleAll_13 rfl rfl (Eq.refl 14) ?_
        refine Tr.getf dX6_settleAll_14 fX6_12 rfl rfl (Eq.refl 17) ?_
        refine Tr.getf dX6_settleAll_17 fX6_127 rfl rfl (Eq.refl 20) ?_
        rw [a5]
        refine Tr.icmp_geN (tgt := 57) dX6_settleAll_20 (by decide) (Eq.refl 23) (by omega) (by omega) (fun h20 => ?_) (fun h20 => ?_)
        · exact absurd h20 (by omega)
        · refine Tr.aload_n (i := 0) dX6_settleAll_23 rfl rfl (Eq.refl 24) ?_
          refine Tr.iload_n (i := 3) dX6_settleAll_24 rfl rfl (Eq.refl 25) ?_
          refine Tr.callVs (c_sumOf E ad (rdF T i).1 i a1 (by omega)) dX6_settleAll_25 (kX6_130 (Nat.le_of_ble_eq_true rfl)) iX6_sumOf rfl rfl rfl rfl rfl (trC_le _ _ _ _ _) rfl rfl (Eq.refl 28) ?_
          refine Tr.istore dX6_settleAll_28 rfl rfl (Eq.refl 30) ?_
          refine Tr.aload_n (i := 0) dX6_settleAll_30 rfl rfl (Eq.refl 31) ?_
          refine Tr.iload_n (i := 3) dX6_settleAll_31 rfl rfl (Eq.refl 32) ?_
          refine Tr.callVs (c_findBest E ad (rqT (rdF T i).1 4) i (rqT_Tok 4 a1) (by show i < npV (vT (rdF T i).1); omega)) dX6_settleAll_32 (kX6_133 (Nat.le_of_ble_eq_true rfl)) iX6_findBest rfl rfl rfl rfl rfl (trC_le _ _ _ _ _) rfl rfl (Eq.refl 35) ?_
          refine Tr.aload_n (i := 0) dX6_settleAll_35 rfl rfl (Eq.refl 36) ?_
          refine Tr.getf dX6_settleAll_36 fX6_97 rfl rfl (Eq.refl 39) ?_
          refine Tr.iload dX6_settleAll_39 rfl (Eq.refl 41) ?_
          refine Tr.icmp_leL (tgt := 51) dX6_settleAll_41 (by decide) (Eq.refl 44) (fun h41 => ?_) (fun h41 => ?_)
          · have hs : stP (rdF T i).1 i = (fbT (rqT (rdF T i).1 4) i, false) := if_neg h41
            refine Tr.iincN dX6_settleAll_51 rfl rfl rfl (Eq.refl 54) ?_
            refine Tr.goto (pc' := 12) dX6_settleAll_54 (by decide) ?_
            have hr : rdF T (i + 1) = ((stP (rdF T i).1 i).1, (rdF T i).2 || (stP (rdF T i).1 i).2) := rfl
            rw [hr, hs] at ih2
            refine Tr.mask [true, true, true, true, false] ?_ ih2
            simp [lvm]
            try rfl
          · have hs : stP (rdF T i).1 i = (uP (fbT (rqT (rdF T i).1 4) i) (pbF (fbT (rqT (rdF T i).1 4) i) i 4), true) := if_pos h41
            refine Tr.iconst (v := nI 0) dX6_settleAll_44 (icN 0) (Eq.refl 45) ?_
            refine Tr.istore_n (i := 2) dX6_settleAll_45 rfl rfl rfl (Eq.refl 46) ?_
            refine Tr.aload_n (i := 0) dX6_settleAll_46 rfl rfl (Eq.refl 47) ?_
            refine Tr.iload_n (i := 3) dX6_settleAll_47 rfl rfl (Eq.refl 48) ?_
            refine Tr.callVs (c_planBest E ad (fbT (rqT (rdF T i).1 4) i) i b1.1 b2) dX6_settleAll_48 (kX6_136 (Nat.le_of_ble_eq_true rfl)) iX6_planBest rfl rfl rfl rfl rfl (trC_le _ _ _ _ _) rfl rfl (Eq.refl 51) ?_
            refine Tr.iincN dX6_settleAll_51 rfl rfl rfl (Eq.refl 54) ?_
            refine Tr.goto (pc' := 12) dX6_settleAll_54 (by decide) ?_
            have hr : rdF T (i + 1) = ((stP (rdF T i).1 i).1, (rdF T i).2 || (stP (rdF T i).1 i).2) := rfl
            rw [hr, hs] at ih2
            refine Tr.mask [true, true, true, true, false] ?_ ih2
            simp [lvm]
            try rfl
set_option maxHeartbeats 4000000 in
set_option maxRecDepth 100000 in
theorem c_settleAll (E : EnvT) (ad : Nat → Nat) (T : Tst) (hT : Tok T) : Md E mX6_settleAll ad [.ref (ad 0)] (trC E ad 0 T) (some (.int (seF 9 1 T).2)) (trC E ad 0 (seF 9 1 T).1) := by
  refine Md.of 4 (by decide) rfl rfl ?_
  refine Tr.iconst (v := nI 1) dX6_settleAll_0 (icN 1) (Eq.refl 1) ?_
  refine Tr.istore_n (i := 1) dX6_settleAll_1 rfl rfl rfl (Eq.refl 2) ?_
  exact Tr.mask [true, true, false, false, false] rfl (c_settleAll_loop E ad 9 1 T rfl hT)
