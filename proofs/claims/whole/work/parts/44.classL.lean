/-! kings that come: the lots are made in the call, and dropped behind it -/
def z_okq (e : ZE) : Bool := match e with
  | .inl (t, n, b) => decide (t < 3) || decide (b + n ≤ 26)
  | .inr (_, fs) => fs.all (fun f => match f with
    | none => true
    | some p => decide (p < 26))
theorem z_base_ok : ∀ e ∈ z_shC [], z_okq e = true := by decide
theorem z_base_len : (z_shC []).length = 26 := rfl
theorem va_at_q {D : va_G} {cl : List vw_C} {a n : Nat} {cA : ClassId} {f g : Nat → Option Nat} {H : Heap} (h : ∀ j, j < n → f j = g j) (h1 : va_at D cl (a, .inl (cA, n, .inr (.inr (.inr (.inr f))))) H) : va_at D cl (a, .inl (cA, n, .inr (.inr (.inr (.inr g))))) H := by
  have h2 : H[a]? = some (vp_cell cA (n, .inr (.inr (.inr (.inr f))))) := h1
  show H[a]? = some (vp_cell cA (n, .inr (.inr (.inr (.inr g)))))
  rw [h2, vp_cell_q, vp_cell_q]
  unfold arrV
  congr 2
  congr 1
  funext j
  show va_rf (f j.val) = va_rf (g j.val)
  rw [h j.val j.isLt]
theorem z_at_m {D : va_G} {cl : List vw_C} {cA : Nat → ClassId} {q q' : Nat → Nat} {S S' : ZS} {H : Heap} {k : Nat} {e : ZE} (hq : ∀ k, k < 26 → q' k = q k) (hk : k < 26) (h1 : S'.1 k = S.1 k) (h2 : S'.2 k = S.2 k) (he : z_okq e = true) (h : va_at D cl (q k, z_ce cA q S k e) H) : va_at D cl (q' k, z_ce cA q' S' k e) H := by
  rw [hq k hk]
  rcases e with ⟨t, n, b⟩ | ⟨ci, fs⟩
  · simp only [z_ce] at h ⊢
    simp only [z_okq, Bool.or_eq_true, decide_eq_true_eq] at he
    match t, he, h with
    | 0, _, h => simp only [z_arr] at h ⊢; rw [h1]; exact h
    | 1, _, h => simp only [z_arr] at h ⊢; rw [h2]; exact h
    | 2, _, h => simp only [z_arr] at h ⊢; rw [h1]; exact h
    | t + 3, he, h =>
      simp only [z_arr] at h ⊢
      exact va_at_q (fun j hj => by rw [hq (b + j) (by omega)]) h
  · have e : z_fs q' S' k fs = z_fs q S k fs := by
      unfold z_fs
      apply List.ext_getElem?
      intro i
      simp only [List.getElem?_mapIdx]
      cases hf : fs[i]? with
      | none => rfl
      | some f =>
        simp only [Option.map_some]
        have hm := List.mem_of_getElem? hf
        simp only [z_okq, List.all_eq_true] at he
        have hp := he f hm
        cases f with
        | none => simp only [z_fv, h1]
        | some p => simp only [decide_eq_true_eq] at hp; simp only [z_fv, hq p hp]
    simp only [z_ce] at h ⊢
    rw [e]; exact h
theorem z_Pm {D : va_G} {cl : List vw_C} {cA : Nat → ClassId} {q q' : Nat → Nat} {S S' : ZS} {H : Heap} {X : va_W} (hq : ∀ k, k < 26 → q' k = q k) (h1 : ∀ k, k < 26 → S'.1 k = S.1 k) (h2 : ∀ k, k < 26 → S'.2 k = S.2 k) (h : va_P D cl (z_ws cA q S (z_shC []) ++ X) H) : va_P D cl (z_ws cA q' S' (z_shC []) ++ X) H := by
  intro k p hk
  by_cases hl : k < 26
  · rw [List.getElem?_append_left (by simp [z_ws, z_base_len, hl])] at hk
    simp only [z_ws, List.getElem?_mapIdx] at hk
    cases he : (z_shC [])[k]? with
    | none => rw [he] at hk; cases hk
    | some e =>
      rw [he] at hk
      cases hk
      exact z_at_m hq hl (h1 k hl) (h2 k hl) (z_base_ok e (List.mem_of_getElem? he)) (h k _ (z_at he))
  · rw [List.getElem?_append_right (by simp [z_ws, z_base_len]; omega)] at hk
    refine h k p ?_
    rw [List.getElem?_append_right (by simp [z_ws, z_base_len]; omega)]
    simpa [z_ws] using hk
theorem z_Da {A : Nat → Prop} {ws ws' : va_W} (h : va_D A ws) (g : Nat → Nat) (hg : ∀ k p, ws'[k]? = some p → ∃ p0, ws[g k]? = some p0 ∧ p0.1 = p.1) (hi : ∀ i j : Nat, i < ws'.length → j < ws'.length → g i = g j → i = j) : va_D A ws' := by
  refine ⟨fun i j x y hx hy hxy => ?_, fun k p hk => ?_⟩
  · obtain ⟨x0, a1, a2⟩ := hg i x hx
    obtain ⟨y0, b1, b2⟩ := hg j y hy
    exact hi i j (List.getElem?_eq_some_iff.mp hx).1 (List.getElem?_eq_some_iff.mp hy).1 (h.1 _ _ _ _ a1 b1 (by rw [a2, b2, hxy]))
  · obtain ⟨p0, a1, a2⟩ := hg k p hk
    rw [← a2]; exact h.2 _ _ a1
def z_tl (cA : Nat → ClassId) (q : Nat → Nat) (S : ZS) (tl : List ZE) : va_W := tl.mapIdx (fun i e => (q (i + 26), z_ce cA q S (i + 26) e))
theorem z_shC_app (tl : List ZE) : z_shC tl = z_shC [] ++ tl := rfl
theorem z_ws_tl {cA : Nat → ClassId} {q : Nat → Nat} {S : ZS} {tl : List ZE} : z_ws cA q S (z_shC tl) = z_ws cA q S (z_shC []) ++ z_tl cA q S tl := by
  rw [z_shC_app]
  unfold z_ws z_tl
  rw [List.mapIdx_append]
  rfl
theorem z_tl_c {cA : Nat → ClassId} {q : Nat → Nat} {S S' : ZS} {tl : List ZE} (h1 : ∀ k, 26 ≤ k → S'.1 k = S.1 k) (h2 : ∀ k, 26 ≤ k → S'.2 k = S.2 k) : z_tl cA q S' tl = z_tl cA q S tl := by
  unfold z_tl
  congr 1
  funext i e
  rw [z_ce_o (h1 _ (by omega)) (h2 _ (by omega))]
theorem z_ws_len {cA : Nat → ClassId} {q : Nat → Nat} {S : ZS} : (z_ws cA q S (z_shC [])).length = 26 := by simp [z_ws, z_base_len]
theorem CR_lt {T : ZT} {S S' : ZS} (h : CR T S) (hf : ∀ a, a < 26 → S'.1 a = S.1 a) : CR T S' := by
  obtain ⟨hx, b1, b2, b3, b4, b5, b6⟩ := h
  refine ⟨hx, ?_, ?_, ?_, ?_, ?_, ?_⟩
  · unfold c_books at *; rw [hf 1 (by omega), hf 2 (by omega), hf 3 (by omega), hf 4 (by omega), hf 5 (by omega), hf 6 (by omega)]; exact b1
  · unfold c_kings at *; rw [hf 7 (by omega), hf 8 (by omega), hf 9 (by omega), hf 10 (by omega)]; exact b2
  · unfold c_burnt at *; rw [hf 11 (by omega), hf 12 (by omega)]; exact b3
  · unfold c_said at *; rw [hf 13 (by omega), hf 14 (by omega), hf 15 (by omega), hf 16 (by omega)]; exact b4
  · unfold c_nums at *; rw [hf 0 (by omega)]; exact b5
  · intro s hs; have := b6 s hs; unfold c_sheet at *; rw [hf (18 + s) (by omega), hf (22 + s) (by omega)]; exact this
def wp_X7_coming (T : ZT) : ZW := fun as S k => match as with
  | [.ref 0, .int x, .int w] => CR T S ∧ ∀ S', CR T S' → k (some (.int (q_coming T x w))) S'
  | _ => False
theorem wr_X7_coming {T : ZT} {x : Int32} {w : Int32} {S : ZS} {k : Option Value → ZS → Prop} : (wp_X7_coming T) [.ref 0, .int x, .int w] S k = (CR T S ∧ ∀ S', CR T S' → k (some (.int (q_coming T x w))) S') := rfl
def cs_X7_coming (T : ZT) : List (Nat × ZC) := [(67, (3, 0, true, wp_X7_within)), (144, (1, 0, false, (wp_X7_left T))), (202, (1, 0, false, wp_X2_number_K)), (203, (2, 0, false, wp_X4_draw)), (168, (3, 0, false, (wp_X7_mostPaid T))), (206, (3, 0, false, (wp_X7_burnByLots T)))]
theorem cr_X7_coming_67 {T : ZT} : (cs_X7_coming T).lookup 67 = some (3, 0, true, wp_X7_within) := rfl
theorem cr_X7_coming_144 {T : ZT} : (cs_X7_coming T).lookup 144 = some (1, 0, false, (wp_X7_left T)) := rfl
theorem cr_X7_coming_202 {T : ZT} : (cs_X7_coming T).lookup 202 = some (1, 0, false, wp_X2_number_K) := rfl
theorem cr_X7_coming_203 {T : ZT} : (cs_X7_coming T).lookup 203 = some (2, 0, false, wp_X4_draw) := rfl
theorem cr_X7_coming_168 {T : ZT} : (cs_X7_coming T).lookup 168 = some (3, 0, false, (wp_X7_mostPaid T)) := rfl
theorem cr_X7_coming_206 {T : ZT} : (cs_X7_coming T).lookup 206 = some (3, 0, false, (wp_X7_burnByLots T)) := rfl
set_option maxRecDepth 20000 in
theorem co_X7_coming (T : ZT) {tl : List ZE} : z_csok RX7 ({ frames := 4, cells := 1, slots := 1, locals := 89 } : Room) (z_shC (z_lots :: tl)) (cs_X7_coming T) := z_cs2 (z_csS ok_X7_within (z_g 210 (by decide +kernel) rfl) (z_g 211 (by decide +kernel) rfl) (z_g 44 (by decide +kernel) rfl) (z_g 212 (by decide +kernel) rfl) rfl rfl (by decide +kernel) ⟨by decide, by decide⟩)
  (z_cs2 (z_csV (ok_X7_left T) (rec_X7_left T) rfl (z_g 419 (by decide +kernel) rfl) (z_g 382 (by decide +kernel) rfl) (z_g 383 (by decide +kernel) rfl) (z_g 384 (by decide +kernel) rfl) (z_g 44 (by decide +kernel) rfl) rfl rfl (by decide +kernel) ⟨by decide, by decide⟩)
  (z_cs2 (z_csU (owner := "NineBooks$Entries") (x := ⟨"NineBooks$Kings", "number", "()I"⟩) ok_X2_number_K rec_X2_number_K rfl (Or.inl (z_gn 293 (by decide +kernel) rfl)) (z_g 317 (by decide +kernel) rfl) (z_g 295 (by decide +kernel) rfl) (z_g 319 (by decide +kernel) rfl) (z_g 296 (by decide +kernel) rfl) (z_g 45 (by decide +kernel) rfl) (z_g 318 (by decide +kernel) rfl) rfl rfl (by decide +kernel) ⟨by decide, by decide⟩)
  (z_cs2 (z_csV ok_X4_draw rec_X4_draw rfl (z_g 550 (by decide +kernel) rfl) (z_g 551 (by decide +kernel) rfl) (z_g 552 (by decide +kernel) rfl) (z_g 553 (by decide +kernel) rfl) (z_g 54 (by decide +kernel) rfl) rfl rfl (by decide +kernel) ⟨by decide, by decide⟩)
  (z_cs2 (z_csV (ok_X7_mostPaid T) (rec_X7_mostPaid T) rfl (z_g 443 (by decide +kernel) rfl) (z_g 445 (by decide +kernel) rfl) (z_g 6 (by decide +kernel) rfl) (z_g 446 (by decide +kernel) rfl) (z_g 44 (by decide +kernel) rfl) rfl rfl (by decide +kernel) ⟨by decide, by decide⟩)
  (z_cs2 (z_csV (ok_X7_burnByLots T) (rec_X7_burnByLots T) rfl (z_g 555 (by decide +kernel) rfl) (z_g 557 (by decide +kernel) rfl) (z_g 7 (by decide +kernel) rfl) (z_g 558 (by decide +kernel) rfl) (z_g 44 (by decide +kernel) rfl) rfl rfl (by decide +kernel) ⟨by decide, by decide⟩)
  (z_cs0))))))
set_option maxHeartbeats 4000000 in
set_option maxRecDepth 20000 in
theorem pu2_X7_coming (T : ZT) {tl : List ZE} {x w : Int32} {S : ZS} {post : Option Value → ZS → Prop} (hC : CR T S) (hx : S.1 26 0 = x) (hw : i_in w 2) (hk : ∀ S', CR T S' → post (some (.int (q_coming T x w))) S') (K : ZK) (hK : z_Cl cX7_coming 7 (z_shC (z_lots :: tl)) z_fX7 (cs_X7_coming T) z_kcX7 z_klX7 (some .int) 1 post K) : K 1 20 [some (.ref 0), some (.int x), some (.int w), none, none, none, none] [.ref 26] S := by
  have e : q_coming T x w = cmN T w 9 (tL T) x := by unfold q_coming; rw [if_pos hw]
  rw [e] at hk
  have hM6 := CR_M hC
  have hb := hC.1.2.2.1.2
  have hpr := hC.1.2.2.1.1
  have key : ∀ (m i s : Nat) (c6 : Option Value) (S' : ZS), i + m = 9 → s < 512 → CR T S' → (∀ S2, CR T S2 → post (some (.int (cmN T w m s (S'.1 26 0)))) S2) → K 1 30 [some (.ref 0), some (.int x), some (.int w), some (.ref 26), some (.int (nI s)), some (.int (nI i)), c6] [] S' := by
    intro m
    induction m with
    | zero =>
      intro i s c6 S' hi hs hC' hk'
      refine hK (z_in [30]) 80 _ _ _ _ _ (Nat.le_refl _) ?_
      simp (config := { maxSteps := 10000000 }) only [z40, z20, z10, z01, zm0, z0m, ze_s, ze_ok, zt_s, zt_t, zt_f, zl_I, zl_J, zl_R, zl_N, zl_C, zl_K, zl_M, zl_ar0, zl_ar1, zl_ar2, zl_ar3, zl_as0, zl_as1, zl_as2, zl_al, zl_gf, zl_gr, zl_pf, zl_iv, zl_ivn, zlk_n, zlk_c, ztb_n, ztb_c, zin_n, zin_1, zin_c, Int.reduceLT, decide_true, decide_false, Bool.true_and, Bool.and_true, List.length_cons, List.length_nil, Int.reduceSub, Int.reduceEq, Int.natCast_zero, zk_s, z_in_n, z_in_c, z_gt_0, z_gt_s, zst_0, zst_1, zst_s, zsl_0, zsl_1, zsl_s, zc_n, zc_i, zc_l, zc_r, zc_u, zca_n, zca_i, zca_l, zca_r, zca_u, zrt_i, zrt_z, zrt_o, z_cal_0, z_cal_s, true_and, and_true, List.nil_append, List.cons_append, Option.toList_some, Option.toList_none, Nat.reduceAdd, Nat.reduceBEq, Nat.reduceLT, Nat.reduceLeDiff, Nat.reduceSub, Int.reduceAdd, Int.reduceLE, Int.reduceToNat, Int.cast_ofNat_Int, Bool.or_true, Bool.true_or, Bool.or_false, Bool.false_or, Nat.le_refl, Nat.zero_le, or_true, true_or, or_false, false_or, not_true_eq_false, not_false_eq_true, not_false_iff, false_implies, true_implies, eq_self, zo_iconst, zo_bipush, zo_sipush, zo_lconst, zo_ldc, zo_ldc_w, zo_ldc2_w, zo_iload_n, zo_iload, zo_lload_n, zo_lload, zo_aload_n, zo_aload, zo_istore_n, zo_istore, zo_lstore_n, zo_lstore, zo_astore_n, zo_astore, zo_iinc, zo_iadd, zo_isub, zo_imul, zo_iand, zo_ior, zo_ixor, zo_ishl, zo_ishr, zo_iushr, zo_idiv, zo_irem, zo_ladd, zo_lsub, zo_lmul, zo_ldiv, zo_lrem, zo_lcmp, zo_i2l, zo_i2b, zo_i2s, zo_dup, zo_dup2, zo_aconst_null, zo_if_icmp, zo_ifCond, zo_goto, zo_ifnull, zo_ifnonnull, zo_iaload, zo_baload, zo_laload, zo_aaload, zo_iastore, zo_bastore, zo_lastore, zo_arraylength, zo_getfield, zo_putfield, zo_tableswitch, zo_lookupswitch, zo_ireturn, zo_lreturn, zo_areturn, zo_return, zo_invokestatic, zo_invokevirtual, zo_new, zo_invokespecial, zo_newarray, zo_anewarray, zo_aastore, zy_0_1, zy_0_2, zy_0_3, zy_1_1, zy_1_2, zy_2_1, zy_2_2, zy_2_3, zy_3_0, zy_4_3, zy_5_1, zy_5_2, zy_6_5, zy_6_6, zy_6_7, zy_6_8, zy_6_9, zy_6_10, zy_7_2, zy_7_6, zy_7_9, zy_7_10, zy_7_11, zy_7_12, zy_7_14, zy_7_21, zy_7_30, zq_iconst, zq_bipush, zq_sipush, zq_lconst0, zq_lconst1, zq_ldc, zq_ldc_w, zq_ldc2_w, zq_iload0, zq_iload1, zq_iload2, zq_iload3, zq_iload, zq_lload0, zq_lload1, zq_lload2, zq_lload3, zq_lload, zq_aload0, zq_aload1, zq_aload2, zq_aload3, zq_aload, zq_istore0, zq_istore1, zq_istore2, zq_istore3, zq_istore, zq_lstore0, zq_lstore1, zq_lstore2, zq_lstore3, zq_lstore, zq_astore0, zq_astore0N, zq_astore1, zq_astore1N, zq_astore2, zq_astore2N, zq_astore3, zq_astore3N, zq_astore, zq_astoreN, zq_iinc, zq_iadd, zq_isub, zq_imul, zq_iand, zq_ior, zq_ixor, zq_ishl, zq_ishr, zq_iushr, zq_idiv, zq_irem, zq_ladd, zq_lsub, zq_lmul, zq_ldiv, zq_lrem, zq_lcmp, zq_i2l, zq_i2b, zq_i2s, zq_dup_i, zq_dup_r, zq_dup2, zq_null, zq_icmp_eq, zq_if_eq, zq_icmp_ne, zq_if_ne, zq_icmp_lt, zq_if_lt, zq_icmp_ge, zq_if_ge, zq_icmp_gt, zq_if_gt, zq_icmp_le, zq_if_le, zq_goto, zq_ifnull_r, zq_ifnull_n, zq_ifnonnull_r, zq_ifnonnull_n, zq_iaload, zq_baload, zq_laload, zq_aaload, zq_iastore, zq_bastore, zq_lastore, zq_alen, zq_getf, zq_put, zq_tsw, zq_lsw, zq_ireturn, zq_lreturn, zq_areturn, zq_areturnN, zq_return, zq_invokestatic, zq_invokevirtual, zq_new, zq_invokespecial, zq_newarray, zq_anewarray, zq_aastore, zi_m1, zi_0, zi_1, zi_2, zi_3, zi_4, zi_5, zi_6, zi_8, zi_16, zb_m10, zb_m4, zb_m3, zb_m2, zb_6, zb_7, zb_8, zb_9, zb_10, zb_16, zb_20, zb_23, zb_30, zb_32, zb_35, zb_46, zb_48, zb_56, zb_57, zb_59, zb_63, zb_70, zb_98, zb_99, zb_100, zb_111, zb_112, zs_192, zs_255, zs_256, zs_511, zs_512, zs_12345, zf_X7_10_0, zf_X7_19_0, zf_X7_26_0, zf_X7_33_0, zf_X7_39_0, zf_X7_43_0, zf_X7_47_0, zf_X7_50_0, zf_X7_53_0, zf_X7_56_0, zf_X7_59_0, zkc_X7_223, zkl_X7_313, zkl_X7_240, zkl_X7_305, za_C_2, za_C_3, za_C_4, za_C_5, za_C_6, za_C_8, za_C_9, za_C_10, za_C_12, za_C_14, za_C_15, za_C_16, za_C_17, za_C_22, za_C_23, za_C_24, za_C_25, dX7_coming_0, dX7_coming_1, dX7_coming_2, dX7_coming_3, dX7_coming_6, dX7_coming_9, dX7_coming_11, dX7_coming_12, dX7_coming_15, dX7_coming_16, dX7_coming_17, dX7_coming_20, dX7_coming_21, dX7_coming_22, dX7_coming_25, dX7_coming_27, dX7_coming_28, dX7_coming_30, dX7_coming_32, dX7_coming_34, dX7_coming_37, dX7_coming_39, dX7_coming_42, dX7_coming_43, dX7_coming_46, dX7_coming_49, dX7_coming_52, dX7_coming_53, dX7_coming_54, dX7_coming_57, dX7_coming_60, dX7_coming_63, dX7_coming_65, dX7_coming_66, dX7_coming_68, dX7_coming_70, dX7_coming_73, dX7_coming_74, dX7_coming_77, dX7_coming_80, dX7_coming_81, dX7_coming_84, dX7_coming_86, dX7_coming_89, dX7_coming_91, dX7_coming_92, dX7_coming_93, dX7_coming_95, dX7_coming_96, dX7_coming_99, dX7_coming_101, dX7_coming_104, dX7_coming_107, dX7_coming_108, cr_X7_coming_67, cr_X7_coming_144, cr_X7_coming_202, cr_X7_coming_203, cr_X7_coming_168, cr_X7_coming_206, wr_X7_within, wr_X7_left, wr_X2_number_K, wr_X4_draw, wr_X7_mostPaid, wr_X7_burnByLots]
      obtain rfl : i = 9 := by omega
      exact ⟨fun _ => hk' S' hC', fun c => absurd (by decide) c⟩
    | succ m ih =>
      intro i s c6 S' hi hs hC' hk'
      refine hK (z_in [30]) 80 _ _ _ _ _ (Nat.le_refl _) ?_
      simp (config := { maxSteps := 10000000 }) only [z40, z20, z10, z01, zm0, z0m, ze_s, ze_ok, zt_s, zt_t, zt_f, zl_I, zl_J, zl_R, zl_N, zl_C, zl_K, zl_M, zl_ar0, zl_ar1, zl_ar2, zl_ar3, zl_as0, zl_as1, zl_as2, zl_al, zl_gf, zl_gr, zl_pf, zl_iv, zl_ivn, zlk_n, zlk_c, ztb_n, ztb_c, zin_n, zin_1, zin_c, Int.reduceLT, decide_true, decide_false, Bool.true_and, Bool.and_true, List.length_cons, List.length_nil, Int.reduceSub, Int.reduceEq, Int.natCast_zero, zk_s, z_in_n, z_in_c, z_gt_0, z_gt_s, zst_0, zst_1, zst_s, zsl_0, zsl_1, zsl_s, zc_n, zc_i, zc_l, zc_r, zc_u, zca_n, zca_i, zca_l, zca_r, zca_u, zrt_i, zrt_z, zrt_o, z_cal_0, z_cal_s, true_and, and_true, List.nil_append, List.cons_append, Option.toList_some, Option.toList_none, Nat.reduceAdd, Nat.reduceBEq, Nat.reduceLT, Nat.reduceLeDiff, Nat.reduceSub, Int.reduceAdd, Int.reduceLE, Int.reduceToNat, Int.cast_ofNat_Int, Bool.or_true, Bool.true_or, Bool.or_false, Bool.false_or, Nat.le_refl, Nat.zero_le, or_true, true_or, or_false, false_or, not_true_eq_false, not_false_eq_true, not_false_iff, false_implies, true_implies, eq_self, zo_iconst, zo_bipush, zo_sipush, zo_lconst, zo_ldc, zo_ldc_w, zo_ldc2_w, zo_iload_n, zo_iload, zo_lload_n, zo_lload, zo_aload_n, zo_aload, zo_istore_n, zo_istore, zo_lstore_n, zo_lstore, zo_astore_n, zo_astore, zo_iinc, zo_iadd, zo_isub, zo_imul, zo_iand, zo_ior, zo_ixor, zo_ishl, zo_ishr, zo_iushr, zo_idiv, zo_irem, zo_ladd, zo_lsub, zo_lmul, zo_ldiv, zo_lrem, zo_lcmp, zo_i2l, zo_i2b, zo_i2s, zo_dup, zo_dup2, zo_aconst_null, zo_if_icmp, zo_ifCond, zo_goto, zo_ifnull, zo_ifnonnull, zo_iaload, zo_baload, zo_laload, zo_aaload, zo_iastore, zo_bastore, zo_lastore, zo_arraylength, zo_getfield, zo_putfield, zo_tableswitch, zo_lookupswitch, zo_ireturn, zo_lreturn, zo_areturn, zo_return, zo_invokestatic, zo_invokevirtual, zo_new, zo_invokespecial, zo_newarray, zo_anewarray, zo_aastore, zy_0_1, zy_0_2, zy_0_3, zy_1_1, zy_1_2, zy_2_1, zy_2_2, zy_2_3, zy_3_0, zy_4_3, zy_5_1, zy_5_2, zy_6_5, zy_6_6, zy_6_7, zy_6_8, zy_6_9, zy_6_10, zy_7_2, zy_7_6, zy_7_9, zy_7_10, zy_7_11, zy_7_12, zy_7_14, zy_7_21, zy_7_30, zq_iconst, zq_bipush, zq_sipush, zq_lconst0, zq_lconst1, zq_ldc, zq_ldc_w, zq_ldc2_w, zq_iload0, zq_iload1, zq_iload2, zq_iload3, zq_iload, zq_lload0, zq_lload1, zq_lload2, zq_lload3, zq_lload, zq_aload0, zq_aload1, zq_aload2, zq_aload3, zq_aload, zq_istore0, zq_istore1, zq_istore2, zq_istore3, zq_istore, zq_lstore0, zq_lstore1, zq_lstore2, zq_lstore3, zq_lstore, zq_astore0, zq_astore0N, zq_astore1, zq_astore1N, zq_astore2, zq_astore2N, zq_astore3, zq_astore3N, zq_astore, zq_astoreN, zq_iinc, zq_iadd, zq_isub, zq_imul, zq_iand, zq_ior, zq_ixor, zq_ishl, zq_ishr, zq_iushr, zq_idiv, zq_irem, zq_ladd, zq_lsub, zq_lmul, zq_ldiv, zq_lrem, zq_lcmp, zq_i2l, zq_i2b, zq_i2s, zq_dup_i, zq_dup_r, zq_dup2, zq_null, zq_icmp_eq, zq_if_eq, zq_icmp_ne, zq_if_ne, zq_icmp_lt, zq_if_lt, zq_icmp_ge, zq_if_ge, zq_icmp_gt, zq_if_gt, zq_icmp_le, zq_if_le, zq_goto, zq_ifnull_r, zq_ifnull_n, zq_ifnonnull_r, zq_ifnonnull_n, zq_iaload, zq_baload, zq_laload, zq_aaload, zq_iastore, zq_bastore, zq_lastore, zq_alen, zq_getf, zq_put, zq_tsw, zq_lsw, zq_ireturn, zq_lreturn, zq_areturn, zq_areturnN, zq_return, zq_invokestatic, zq_invokevirtual, zq_new, zq_invokespecial, zq_newarray, zq_anewarray, zq_aastore, zi_m1, zi_0, zi_1, zi_2, zi_3, zi_4, zi_5, zi_6, zi_8, zi_16, zb_m10, zb_m4, zb_m3, zb_m2, zb_6, zb_7, zb_8, zb_9, zb_10, zb_16, zb_20, zb_23, zb_30, zb_32, zb_35, zb_46, zb_48, zb_56, zb_57, zb_59, zb_63, zb_70, zb_98, zb_99, zb_100, zb_111, zb_112, zs_192, zs_255, zs_256, zs_511, zs_512, zs_12345, zf_X7_10_0, zf_X7_19_0, zf_X7_26_0, zf_X7_33_0, zf_X7_39_0, zf_X7_43_0, zf_X7_47_0, zf_X7_50_0, zf_X7_53_0, zf_X7_56_0, zf_X7_59_0, zkc_X7_223, zkl_X7_313, zkl_X7_240, zkl_X7_305, za_C_2, za_C_3, za_C_4, za_C_5, za_C_6, za_C_8, za_C_9, za_C_10, za_C_12, za_C_14, za_C_15, za_C_16, za_C_17, za_C_22, za_C_23, za_C_24, za_C_25, dX7_coming_0, dX7_coming_1, dX7_coming_2, dX7_coming_3, dX7_coming_6, dX7_coming_9, dX7_coming_11, dX7_coming_12, dX7_coming_15, dX7_coming_16, dX7_coming_17, dX7_coming_20, dX7_coming_21, dX7_coming_22, dX7_coming_25, dX7_coming_27, dX7_coming_28, dX7_coming_30, dX7_coming_32, dX7_coming_34, dX7_coming_37, dX7_coming_39, dX7_coming_42, dX7_coming_43, dX7_coming_46, dX7_coming_49, dX7_coming_52, dX7_coming_53, dX7_coming_54, dX7_coming_57, dX7_coming_60, dX7_coming_63, dX7_coming_65, dX7_coming_66, dX7_coming_68, dX7_coming_70, dX7_coming_73, dX7_coming_74, dX7_coming_77, dX7_coming_80, dX7_coming_81, dX7_coming_84, dX7_coming_86, dX7_coming_89, dX7_coming_91, dX7_coming_92, dX7_coming_93, dX7_coming_95, dX7_coming_96, dX7_coming_99, dX7_coming_101, dX7_coming_104, dX7_coming_107, dX7_coming_108, cr_X7_coming_67, cr_X7_coming_144, cr_X7_coming_202, cr_X7_coming_203, cr_X7_coming_168, cr_X7_coming_206, wr_X7_within, wr_X7_left, wr_X2_number_K, wr_X4_draw, wr_X7_mostPaid, wr_X7_burnByLots]
      have e3 : S'.1 7 3 = nI (tM T) := (CR_k hC').2.2.2.1
      have e5 : S'.1 0 5 = nI (tpr T) := (CR_nums hC').1
      rw [cmN_s] at hk'
      simp only [z_rd, Nat.reduceEqDiff, true_and, and_true, and_self, false_and, and_false, if_true, if_false]
      rw [e3, e5, show (8 : Int32) = nI 8 from rfl, show (0 : Int32) = nI 0 from rfl, n_lt (by omega) (by omega), n_eq (by omega) (by omega), n_le (by omega) (by omega)]
      refine ⟨fun c => absurd c (by omega), fun _ => ⟨fun c => ?_, fun c => ⟨fun d => ?_, fun d => ?_⟩⟩⟩
      · rw [if_pos (Or.inl c)] at hk'; exact hk' S' hC'
      · rw [if_pos (Or.inr (by omega))] at hk'; exact hk' S' hC'
      · rw [if_neg (fun q => q.elim c (fun z => by omega))] at hk'
        have hm0 : 0 < tM T := by omega
        have hkd := dr_lt (x := lcg (S'.1 26 0)) hm0
        have ed := dr_eq (x := lcg (S'.1 26 0)) hm0 (by omega)
        have hC2 : CR T (z_u S'.1 26 0 (1103515245 * S'.1 26 0 + 12345), S'.2) := CR_26 hC' (fun a ha => by dsimp only; rw [z_u_o ha])
        have hPle := (tP_le hC' hkd s).1
        refine ⟨tM T, rfl, hm0, by omega, dr (lcg (S'.1 26 0)) (tM T), s, hC2, ed, rfl, hkd, fun c1 => ?_, fun c1 => ?_⟩
        · rw [n_lt (by omega) (by omega)] at c1
          rw [if_neg (by omega)] at hk'
          have eS : (z_u S'.1 26 0 (1103515245 * S'.1 26 0 + 12345), S'.2).1 26 0 = lcg (S'.1 26 0) := by
            simp only [z_rd, Nat.reduceEqDiff, true_and, and_true, and_self, false_and, and_false, if_true, if_false]
            rfl
          refine ⟨s, hC2, rfl, hs, fun S3 h3 h4 => ?_⟩
          obtain ⟨q1, q2⟩ := bl_pop (tbu T) s (lcg (S'.1 26 0)) hs c (by omega)
          rw [nI_1]
          refine ih (i + 1) _ _ S3 (by omega) ?_ h3 (fun S2 hS2 => ?_)
          · exact Nat.lt_of_le_of_lt q2 hs
          · rw [h4]
            exact hk' S2 hS2
        · rw [n_lt (by omega) (by omega)] at c1
          rw [if_pos (by omega)] at hk'
          refine ⟨fun z => ?_, fun z => ?_⟩
          · rw [if_pos (show w = 0 from z)] at hk'; exact hk' _ hC2
          · rw [if_neg (show ¬ w = 0 from z)] at hk'; unfold lcg at ed; rw [ed]; exact hk' _ hC2
  refine hK (z_in [30]) 80 _ _ _ _ _ (Nat.le_refl _) ?_
  simp (config := { maxSteps := 10000000 }) only [z40, z20, z10, z01, zm0, z0m, ze_s, ze_ok, zt_s, zt_t, zt_f, zl_I, zl_J, zl_R, zl_N, zl_C, zl_K, zl_M, zl_ar0, zl_ar1, zl_ar2, zl_ar3, zl_as0, zl_as1, zl_as2, zl_al, zl_gf, zl_gr, zl_pf, zl_iv, zl_ivn, zlk_n, zlk_c, ztb_n, ztb_c, zin_n, zin_1, zin_c, Int.reduceLT, decide_true, decide_false, Bool.true_and, Bool.and_true, List.length_cons, List.length_nil, Int.reduceSub, Int.reduceEq, Int.natCast_zero, zk_s, z_in_n, z_in_c, z_gt_0, z_gt_s, zst_0, zst_1, zst_s, zsl_0, zsl_1, zsl_s, zc_n, zc_i, zc_l, zc_r, zc_u, zca_n, zca_i, zca_l, zca_r, zca_u, zrt_i, zrt_z, zrt_o, z_cal_0, z_cal_s, true_and, and_true, List.nil_append, List.cons_append, Option.toList_some, Option.toList_none, Nat.reduceAdd, Nat.reduceBEq, Nat.reduceLT, Nat.reduceLeDiff, Nat.reduceSub, Int.reduceAdd, Int.reduceLE, Int.reduceToNat, Int.cast_ofNat_Int, Bool.or_true, Bool.true_or, Bool.or_false, Bool.false_or, Nat.le_refl, Nat.zero_le, or_true, true_or, or_false, false_or, not_true_eq_false, not_false_eq_true, not_false_iff, false_implies, true_implies, eq_self, zo_iconst, zo_bipush, zo_sipush, zo_lconst, zo_ldc, zo_ldc_w, zo_ldc2_w, zo_iload_n, zo_iload, zo_lload_n, zo_lload, zo_aload_n, zo_aload, zo_istore_n, zo_istore, zo_lstore_n, zo_lstore, zo_astore_n, zo_astore, zo_iinc, zo_iadd, zo_isub, zo_imul, zo_iand, zo_ior, zo_ixor, zo_ishl, zo_ishr, zo_iushr, zo_idiv, zo_irem, zo_ladd, zo_lsub, zo_lmul, zo_ldiv, zo_lrem, zo_lcmp, zo_i2l, zo_i2b, zo_i2s, zo_dup, zo_dup2, zo_aconst_null, zo_if_icmp, zo_ifCond, zo_goto, zo_ifnull, zo_ifnonnull, zo_iaload, zo_baload, zo_laload, zo_aaload, zo_iastore, zo_bastore, zo_lastore, zo_arraylength, zo_getfield, zo_putfield, zo_tableswitch, zo_lookupswitch, zo_ireturn, zo_lreturn, zo_areturn, zo_return, zo_invokestatic, zo_invokevirtual, zo_new, zo_invokespecial, zo_newarray, zo_anewarray, zo_aastore, zy_0_1, zy_0_2, zy_0_3, zy_1_1, zy_1_2, zy_2_1, zy_2_2, zy_2_3, zy_3_0, zy_4_3, zy_5_1, zy_5_2, zy_6_5, zy_6_6, zy_6_7, zy_6_8, zy_6_9, zy_6_10, zy_7_2, zy_7_6, zy_7_9, zy_7_10, zy_7_11, zy_7_12, zy_7_14, zy_7_21, zy_7_30, zq_iconst, zq_bipush, zq_sipush, zq_lconst0, zq_lconst1, zq_ldc, zq_ldc_w, zq_ldc2_w, zq_iload0, zq_iload1, zq_iload2, zq_iload3, zq_iload, zq_lload0, zq_lload1, zq_lload2, zq_lload3, zq_lload, zq_aload0, zq_aload1, zq_aload2, zq_aload3, zq_aload, zq_istore0, zq_istore1, zq_istore2, zq_istore3, zq_istore, zq_lstore0, zq_lstore1, zq_lstore2, zq_lstore3, zq_lstore, zq_astore0, zq_astore0N, zq_astore1, zq_astore1N, zq_astore2, zq_astore2N, zq_astore3, zq_astore3N, zq_astore, zq_astoreN, zq_iinc, zq_iadd, zq_isub, zq_imul, zq_iand, zq_ior, zq_ixor, zq_ishl, zq_ishr, zq_iushr, zq_idiv, zq_irem, zq_ladd, zq_lsub, zq_lmul, zq_ldiv, zq_lrem, zq_lcmp, zq_i2l, zq_i2b, zq_i2s, zq_dup_i, zq_dup_r, zq_dup2, zq_null, zq_icmp_eq, zq_if_eq, zq_icmp_ne, zq_if_ne, zq_icmp_lt, zq_if_lt, zq_icmp_ge, zq_if_ge, zq_icmp_gt, zq_if_gt, zq_icmp_le, zq_if_le, zq_goto, zq_ifnull_r, zq_ifnull_n, zq_ifnonnull_r, zq_ifnonnull_n, zq_iaload, zq_baload, zq_laload, zq_aaload, zq_iastore, zq_bastore, zq_lastore, zq_alen, zq_getf, zq_put, zq_tsw, zq_lsw, zq_ireturn, zq_lreturn, zq_areturn, zq_areturnN, zq_return, zq_invokestatic, zq_invokevirtual, zq_new, zq_invokespecial, zq_newarray, zq_anewarray, zq_aastore, zi_m1, zi_0, zi_1, zi_2, zi_3, zi_4, zi_5, zi_6, zi_8, zi_16, zb_m10, zb_m4, zb_m3, zb_m2, zb_6, zb_7, zb_8, zb_9, zb_10, zb_16, zb_20, zb_23, zb_30, zb_32, zb_35, zb_46, zb_48, zb_56, zb_57, zb_59, zb_63, zb_70, zb_98, zb_99, zb_100, zb_111, zb_112, zs_192, zs_255, zs_256, zs_511, zs_512, zs_12345, zf_X7_10_0, zf_X7_19_0, zf_X7_26_0, zf_X7_33_0, zf_X7_39_0, zf_X7_43_0, zf_X7_47_0, zf_X7_50_0, zf_X7_53_0, zf_X7_56_0, zf_X7_59_0, zkc_X7_223, zkl_X7_313, zkl_X7_240, zkl_X7_305, za_C_2, za_C_3, za_C_4, za_C_5, za_C_6, za_C_8, za_C_9, za_C_10, za_C_12, za_C_14, za_C_15, za_C_16, za_C_17, za_C_22, za_C_23, za_C_24, za_C_25, dX7_coming_0, dX7_coming_1, dX7_coming_2, dX7_coming_3, dX7_coming_6, dX7_coming_9, dX7_coming_11, dX7_coming_12, dX7_coming_15, dX7_coming_16, dX7_coming_17, dX7_coming_20, dX7_coming_21, dX7_coming_22, dX7_coming_25, dX7_coming_27, dX7_coming_28, dX7_coming_30, dX7_coming_32, dX7_coming_34, dX7_coming_37, dX7_coming_39, dX7_coming_42, dX7_coming_43, dX7_coming_46, dX7_coming_49, dX7_coming_52, dX7_coming_53, dX7_coming_54, dX7_coming_57, dX7_coming_60, dX7_coming_63, dX7_coming_65, dX7_coming_66, dX7_coming_68, dX7_coming_70, dX7_coming_73, dX7_coming_74, dX7_coming_77, dX7_coming_80, dX7_coming_81, dX7_coming_84, dX7_coming_86, dX7_coming_89, dX7_coming_91, dX7_coming_92, dX7_coming_93, dX7_coming_95, dX7_coming_96, dX7_coming_99, dX7_coming_101, dX7_coming_104, dX7_coming_107, dX7_coming_108, cr_X7_coming_67, cr_X7_coming_144, cr_X7_coming_202, cr_X7_coming_203, cr_X7_coming_168, cr_X7_coming_206, wr_X7_within, wr_X7_left, wr_X2_number_K, wr_X4_draw, wr_X7_mostPaid, wr_X7_burnByLots]
  refine ⟨hC, ?_⟩
  exact key 9 0 (tL T) none S (by omega) (tL_lt hC) hC (fun S2 h2 => by rw [hx]; exact hk S2 h2)
def cs1_X7_coming : List (Nat × ZC) := [(67, (3, 0, true, wp_X7_within))]
theorem cr1_X7_coming_67 : cs1_X7_coming.lookup 67 = some (3, 0, true, wp_X7_within) := rfl
set_option maxRecDepth 20000 in
theorem co1_X7_coming {tl : List ZE} : z_csok RX7 ({ frames := 4, cells := 1, slots := 1, locals := 89 } : Room) (z_shC tl) cs1_X7_coming := z_cs2 (z_csS ok_X7_within (z_g 210 (by decide +kernel) rfl) (z_g 211 (by decide +kernel) rfl) (z_g 44 (by decide +kernel) rfl) (z_g 212 (by decide +kernel) rfl) rfl rfl (by decide +kernel) ⟨by decide, by decide⟩)
  z_cs0
set_option maxHeartbeats 4000000 in
set_option maxRecDepth 20000 in
theorem pu1_X7_coming {tl : List ZE} {x w : Int32} {S : ZS} {post : Option Value → ZS → Prop} (hk : ¬ i_in w 2 → post (some (.int (-2))) S) (K : ZK) (hK : z_Cl cX7_coming 7 (z_shC tl) z_fX7 cs1_X7_coming z_kcX7 z_klX7 (some .int) 1 post K) (h12 : i_in w 2 → K 0 12 [some (.ref 0), some (.int x), some (.int w), none, none, none, none] [] S) : K 0 0 [some (.ref 0), some (.int x), some (.int w), none, none, none, none] [] S := by
  refine hK (z_in [12]) 60 _ _ _ _ _ (Nat.zero_le _) ?_
  simp (config := { maxSteps := 10000000 }) only [z40, z20, z10, z01, zm0, z0m, ze_s, ze_ok, zt_s, zt_t, zt_f, zl_I, zl_J, zl_R, zl_N, zl_C, zl_K, zl_M, zl_ar0, zl_ar1, zl_ar2, zl_ar3, zl_as0, zl_as1, zl_as2, zl_al, zl_gf, zl_gr, zl_pf, zl_iv, zl_ivn, zlk_n, zlk_c, ztb_n, ztb_c, zin_n, zin_1, zin_c, Int.reduceLT, decide_true, decide_false, Bool.true_and, Bool.and_true, List.length_cons, List.length_nil, Int.reduceSub, Int.reduceEq, Int.natCast_zero, zk_s, z_in_n, z_in_c, z_gt_0, z_gt_s, zst_0, zst_1, zst_s, zsl_0, zsl_1, zsl_s, zc_n, zc_i, zc_l, zc_r, zc_u, zca_n, zca_i, zca_l, zca_r, zca_u, zrt_i, zrt_z, zrt_o, z_cal_0, z_cal_s, true_and, and_true, List.nil_append, List.cons_append, Option.toList_some, Option.toList_none, Nat.reduceAdd, Nat.reduceBEq, Nat.reduceLT, Nat.reduceLeDiff, Nat.reduceSub, Int.reduceAdd, Int.reduceLE, Int.reduceToNat, Int.cast_ofNat_Int, Bool.or_true, Bool.true_or, Bool.or_false, Bool.false_or, Nat.le_refl, Nat.zero_le, or_true, true_or, or_false, false_or, not_true_eq_false, not_false_eq_true, not_false_iff, false_implies, true_implies, eq_self, zo_iconst, zo_bipush, zo_sipush, zo_lconst, zo_ldc, zo_ldc_w, zo_ldc2_w, zo_iload_n, zo_iload, zo_lload_n, zo_lload, zo_aload_n, zo_aload, zo_istore_n, zo_istore, zo_lstore_n, zo_lstore, zo_astore_n, zo_astore, zo_iinc, zo_iadd, zo_isub, zo_imul, zo_iand, zo_ior, zo_ixor, zo_ishl, zo_ishr, zo_iushr, zo_idiv, zo_irem, zo_ladd, zo_lsub, zo_lmul, zo_ldiv, zo_lrem, zo_lcmp, zo_i2l, zo_i2b, zo_i2s, zo_dup, zo_dup2, zo_aconst_null, zo_if_icmp, zo_ifCond, zo_goto, zo_ifnull, zo_ifnonnull, zo_iaload, zo_baload, zo_laload, zo_aaload, zo_iastore, zo_bastore, zo_lastore, zo_arraylength, zo_getfield, zo_putfield, zo_tableswitch, zo_lookupswitch, zo_ireturn, zo_lreturn, zo_areturn, zo_return, zo_invokestatic, zo_invokevirtual, zo_new, zo_invokespecial, zo_newarray, zo_anewarray, zo_aastore, zy_0_1, zy_0_2, zy_0_3, zy_1_1, zy_1_2, zy_2_1, zy_2_2, zy_2_3, zy_3_0, zy_4_3, zy_5_1, zy_5_2, zy_6_5, zy_6_6, zy_6_7, zy_6_8, zy_6_9, zy_6_10, zy_7_2, zy_7_6, zy_7_9, zy_7_10, zy_7_11, zy_7_12, zy_7_14, zy_7_21, zy_7_30, zq_iconst, zq_bipush, zq_sipush, zq_lconst0, zq_lconst1, zq_ldc, zq_ldc_w, zq_ldc2_w, zq_iload0, zq_iload1, zq_iload2, zq_iload3, zq_iload, zq_lload0, zq_lload1, zq_lload2, zq_lload3, zq_lload, zq_aload0, zq_aload1, zq_aload2, zq_aload3, zq_aload, zq_istore0, zq_istore1, zq_istore2, zq_istore3, zq_istore, zq_lstore0, zq_lstore1, zq_lstore2, zq_lstore3, zq_lstore, zq_astore0, zq_astore0N, zq_astore1, zq_astore1N, zq_astore2, zq_astore2N, zq_astore3, zq_astore3N, zq_astore, zq_astoreN, zq_iinc, zq_iadd, zq_isub, zq_imul, zq_iand, zq_ior, zq_ixor, zq_ishl, zq_ishr, zq_iushr, zq_idiv, zq_irem, zq_ladd, zq_lsub, zq_lmul, zq_ldiv, zq_lrem, zq_lcmp, zq_i2l, zq_i2b, zq_i2s, zq_dup_i, zq_dup_r, zq_dup2, zq_null, zq_icmp_eq, zq_if_eq, zq_icmp_ne, zq_if_ne, zq_icmp_lt, zq_if_lt, zq_icmp_ge, zq_if_ge, zq_icmp_gt, zq_if_gt, zq_icmp_le, zq_if_le, zq_goto, zq_ifnull_r, zq_ifnull_n, zq_ifnonnull_r, zq_ifnonnull_n, zq_iaload, zq_baload, zq_laload, zq_aaload, zq_iastore, zq_bastore, zq_lastore, zq_alen, zq_getf, zq_put, zq_tsw, zq_lsw, zq_ireturn, zq_lreturn, zq_areturn, zq_areturnN, zq_return, zq_invokestatic, zq_invokevirtual, zq_new, zq_invokespecial, zq_newarray, zq_anewarray, zq_aastore, zi_m1, zi_0, zi_1, zi_2, zi_3, zi_4, zi_5, zi_6, zi_8, zi_16, zb_m10, zb_m4, zb_m3, zb_m2, zb_6, zb_7, zb_8, zb_9, zb_10, zb_16, zb_20, zb_23, zb_30, zb_32, zb_35, zb_46, zb_48, zb_56, zb_57, zb_59, zb_63, zb_70, zb_98, zb_99, zb_100, zb_111, zb_112, zs_192, zs_255, zs_256, zs_511, zs_512, zs_12345, zf_X7_10_0, zf_X7_19_0, zf_X7_26_0, zf_X7_33_0, zf_X7_39_0, zf_X7_43_0, zf_X7_47_0, zf_X7_50_0, zf_X7_53_0, zf_X7_56_0, zf_X7_59_0, zkc_X7_223, zkl_X7_313, zkl_X7_240, zkl_X7_305, za_C_2, za_C_3, za_C_4, za_C_5, za_C_6, za_C_8, za_C_9, za_C_10, za_C_12, za_C_14, za_C_15, za_C_16, za_C_17, za_C_22, za_C_23, za_C_24, za_C_25, dX7_coming_0, dX7_coming_1, dX7_coming_2, dX7_coming_3, dX7_coming_6, dX7_coming_9, dX7_coming_11, dX7_coming_12, dX7_coming_15, dX7_coming_16, dX7_coming_17, dX7_coming_20, dX7_coming_21, dX7_coming_22, dX7_coming_25, dX7_coming_27, dX7_coming_28, dX7_coming_30, dX7_coming_32, dX7_coming_34, dX7_coming_37, dX7_coming_39, dX7_coming_42, dX7_coming_43, dX7_coming_46, dX7_coming_49, dX7_coming_52, dX7_coming_53, dX7_coming_54, dX7_coming_57, dX7_coming_60, dX7_coming_63, dX7_coming_65, dX7_coming_66, dX7_coming_68, dX7_coming_70, dX7_coming_73, dX7_coming_74, dX7_coming_77, dX7_coming_80, dX7_coming_81, dX7_coming_84, dX7_coming_86, dX7_coming_89, dX7_coming_91, dX7_coming_92, dX7_coming_93, dX7_coming_95, dX7_coming_96, dX7_coming_99, dX7_coming_101, dX7_coming_104, dX7_coming_107, dX7_coming_108, cr_X7_coming_67, cr_X7_coming_144, cr_X7_coming_202, cr_X7_coming_203, cr_X7_coming_168, cr_X7_coming_206, wr_X7_within, wr_X7_left, wr_X2_number_K, wr_X4_draw, wr_X7_mostPaid, wr_X7_burnByLots, cr1_X7_coming_67]
  rw [w_in (m := 1) (by decide)]
  exact ⟨h12, hk⟩
theorem z_Dm {A : Nat → Prop} {cA : Nat → ClassId} {q q' : Nat → Nat} {S S' : ZS} {X : va_W} (hq : ∀ k, k < 26 → q' k = q k) (h : va_D A (z_ws cA q S (z_shC []) ++ X)) : va_D A (z_ws cA q' S' (z_shC []) ++ X) := by
  refine z_Da h id (fun k p hk => ?_) (fun i j _ _ h => h)
  by_cases hl : k < 26
  · rw [List.getElem?_append_left (by simp [z_ws, z_base_len, hl])] at hk
    simp only [z_ws, List.getElem?_mapIdx] at hk
    cases he : (z_shC [])[k]? with
    | none => rw [he] at hk; cases hk
    | some e =>
      rw [he] at hk
      cases hk
      exact ⟨_, z_at he, (hq k hl).symm⟩
  · rw [List.getElem?_append_right (by simp [z_ws, z_base_len]; omega)] at hk
    refine ⟨p, ?_, rfl⟩
    show (z_ws cA q S (z_shC []) ++ X)[k]? = some p
    rw [List.getElem?_append_right (by simp [z_ws, z_base_len]; omega)]
    simpa [z_ws] using hk
theorem z_K.lots {D : va_G} {cA : Nat → ClassId} {tl : List ZE} {U : State} (h : z_K D cA (z_shC tl) U) : z_K D cA (z_shC [z_lots]) U := by
  refine ⟨h.1, fun k t n b hk => h.2.1 k t n b ?_, h.2.2⟩
  rw [z_shC_app] at hk ⊢
  by_cases hl : k < 26
  · rw [List.getElem?_append_left (by rw [z_base_len]; exact hl)] at hk ⊢; exact hk
  · rw [List.getElem?_append_right (by rw [z_base_len]; omega)] at hk
    have hlt := (List.getElem?_eq_some_iff.mp hk).1
    have h0 : k - (z_shC []).length = 0 := by simpa using hlt
    rw [h0] at hk
    cases hk
theorem z_mvP {D : va_G} {cl : List vw_C} {B X : va_W} {c : Nat × va_E} {H : Heap} (h : va_P D cl (c :: (B ++ X)) H) : va_P D cl (B ++ ([c] ++ X)) H := by
  intro k p hk
  have hm : p ∈ c :: (B ++ X) := by
    have := List.mem_of_getElem? hk
    rcases List.mem_append.mp this with h1 | h1
    · exact List.mem_cons_of_mem _ (List.mem_append_left _ h1)
    · rcases List.mem_append.mp h1 with h2 | h2
      · rw [List.mem_singleton] at h2; subst h2; exact List.mem_cons_self
      · exact List.mem_cons_of_mem _ (List.mem_append_right _ h2)
  obtain ⟨i, hi⟩ := List.getElem?_of_mem hm
  exact h i p hi
theorem z_mvD {A : Nat → Prop} {B X : va_W} {c : Nat × va_E} (h : va_D A (c :: (B ++ X))) : va_D A (B ++ ([c] ++ X)) := by
  have h1 : va_D A ((B ++ X) ++ [c]) := va_D.swap (a := []) (b := [c]) (c := B ++ X) h
  have h2 := va_D.swap (a := B) (b := X) (c := [c]) h1
  rwa [List.append_assoc] at h2
theorem z_drP {D : va_G} {cl : List vw_C} {B X Y : va_W} {H : Heap} (h : va_P D cl (B ++ (Y ++ X)) H) : va_P D cl (B ++ X) H := by
  intro k p hk
  have hm : p ∈ B ++ (Y ++ X) := by
    rcases List.mem_append.mp (List.mem_of_getElem? hk) with h1 | h1
    · exact List.mem_append_left _ h1
    · exact List.mem_append_right _ (List.mem_append_right _ h1)
  obtain ⟨i, hi⟩ := List.getElem?_of_mem hm
  exact h i p hi
set_option maxHeartbeats 4000000 in
set_option maxRecDepth 20000 in
theorem ok_X7_coming (T : ZT) {tl : List ZE} : z_Ok (z_shC tl) yX7_coming cX7_coming 7 (some .int) ({ frames := 4, cells := 1, slots := 1, locals := 89 } : Room) 1 (wp_X7_coming T) := by
  intro l as S post hw D cA q ex sz
  unfold wp_X7_coming at hw
  split at hw
  · rename_i x w
    obtain ⟨hC, hk⟩ := hw
    refine Met.ofW (cc := cX7_coming) (maxL := 7) (ret := some .int) (by decide +kernel) rfl ?_
    intro p e s m args below meth c s₁ B hml hv
    obtain ⟨rfl, hsz, hP, hK, hD0⟩ := hv
    have hts := atoms_spec (ws := Cond.code yX7_coming cX7_coming 7 (some .int) :: lw_g) B.pre
    subst hsz
    have hD := hD0.self (sz := s.heap.size)
    have hA : ∀ x, s.heap.size ≤ x → va_A (z_ws cA q S (z_shC tl) ++ ex) s.heap.size x := fun x hx => Or.inr hx
    have hl0 := z_L.entry (q := q) (nL := 7) (as := [.ref 0, .int x, .int w]) (Nat.le_of_ble_eq_true rfl)
    rw [lg_entry_eq]
    generalize va_A (z_ws cA q S (z_shC tl) ++ ex) s.heap.size = A at hD hA ⊢
    have hg : ∀ w1 ∈ lw_g, w1.before _ s = true := fun w1 hw1 => hts w1 (List.mem_cons_of_mem _ hw1)
    have hx := B.exec
    have hb := B.bytes
    have hown : s.vm.findClass RX7 = some m.cls := findClass_of_methodNamed B.named
    have C : z_Cx p s m (([.ref 0, .int x, .int w] : List Value).map (z_em q)).toArray meth c D cA A (z_shC tl) cX7_coming RX7 7 (some .int) := ⟨B.exec, B.bytes, hml, B.returns, B.notSynchronized, hown, hg, hK, hA⟩
    have C2 : z_Cx p s m (([.ref 0, .int x, .int w] : List Value).map (z_em q)).toArray meth c D cA A (z_shC [z_lots]) cX7_coming RX7 7 (some .int) := ⟨B.exec, B.bytes, hml, B.returns, B.notSynchronized, hown, hg, hK.lots, hA⟩
    have hK0 : va_K D z_cl [] s := hK.va
    have hbad : ¬ i_in w 2 → post (some (.int (-2))) S := by
      intro c
      have := hk S hC
      unfold q_coming at this
      rw [if_neg c] at this
      exact this
    have Z := z_ev_ok (l := l) (e := e) (R := (headSpec (Cond.code yX7_coming cX7_coming 7 (some .int) :: lw_g) ({ frames := 4, cells := 1, slots := 1, locals := 89 } : Room)).room) (below := below) (q := q) (ex := ex) (ρ := post) (mc := 1) C z_fX7_ok z_kX7_ok co1_X7_coming ⟨Nat.le_refl 1, Nat.le_refl 1⟩
    have K0 := pu1_X7_coming (tl := tl) (x := x) (w := w) (S := S) (post := post) hbad _ Z
    refine K0 (fun hw2 => ?_) s.heap [] _ hP hD va_S.rf hl0
    clear K0 Z
    intro H locs ls hP hD hS hL
    have hl : lv_has ls 7 [(0, .ref (q 0)), (1, .int x), (2, .int w)] := hL.has
    refine va_new (ci := 3) (fs := [.int 0]) (C := RX4) (T := TX4) (N := 1) hx hb hg z_inX4 tyX4 tyX4_ok hown (hg _ (z_g 540 (by decide +kernel) rfl)) (hg _ (z_g 541 (by decide +kernel) rfl)) (hg _ (z_g 54 (by decide +kernel) rfl)) hK0 hP hD hS hA rfl (fun j hj => by rcases (show j = 0 by omega) with rfl; rfl) (Nat.le_of_ble_eq_true rfl) (Nat.le_of_ble_eq_true rfl) dX7_coming_12 (fun a H hP hD hS => ?_)
    have hP := va_P.swap (a := []) hP
    have hD := va_D.swap (a := []) hD
    have hP : va_P D z_cl ((a, .inr (3, [.int 0])) :: (z_ws cA q S (z_shC tl) ++ ex)) H := hP
    have hD : va_D A ((a, .inr (3, [.int 0])) :: (z_ws cA q S (z_shC tl) ++ ex)) := hD
    refine lv_dup hx hb dX7_coming_15 rfl ?_
    refine lv_iload_n hx hb dX7_coming_16 rfl (lv_at hl 1 rfl) ?_
    have hSo := hS
    have hDo := hD
    refine va_callv (va_runI (As := [.int x]) (rest := [.ref a]) ⟨hx, hb, hml, hown, hg⟩ (in_X4_init l D a x (z_ws cA q S (z_shC tl) ++ ex) H.size) (cwI 1 hg (z_gi (z_g 544 (by decide +kernel) rfl)) rfl rfl rfl (hg _ (z_g 54 (by decide +kernel) rfl)) (hg _ (z_g 542 (by decide +kernel) rfl)) (hg _ (z_g 543 (by decide +kernel) rfl)) rfl (by decide +kernel) ⟨(Nat.le_of_ble_eq_true rfl), (Nat.le_of_ble_eq_true rfl)⟩) ⟨fun a U g mk q => by obtain ⟨r0, r1, rP, rK, rD⟩ := q; exact ⟨r0, r1, rP, va_K.moved (u := U) (U := U.calling g mk a) (Vm.Alike.refl U.vm) rK, rD⟩, fun U hU hW => ⟨rfl, by rw [hU], by rw [hU]; exact hP, va_K.moved hW.alike hK0, hD.weaken (fun _ _ _ _ => trivial)⟩⟩ rfl rfl hl.1 rfl (lv_room (Nat.le_of_ble_eq_true rfl)) dX7_coming_17 ⟨(Nat.le_of_ble_eq_true rfl), (Nat.le_of_ble_eq_true rfl)⟩) hS (fun x _ h => z_Asub hD hS hA x h) (fun x h => z_Asub hD hS hA x h) (fun u t H locs ht hvm _ hB hz1 hk1 hS => ?_)
    obtain ⟨hP, hK1, hD⟩ := hB
    rw [ht] at hP
    have hD := hD.weaken (fun _ _ _ h => z_Asub hDo hSo hA _ h)
    rw [z_ws_tl, List.append_assoc] at hP hD
    generalize hX : z_tl cA q S tl ++ ex = X at hP hD
    have hP := z_mvP hP
    have hD := z_mvD hD
    obtain ⟨q2, hq2, hqa⟩ : ∃ q2 : Nat → Nat, (∀ k, k < 26 → q2 k = q k) ∧ q2 26 = a := ⟨fun k => if k = 26 then a else q k, fun k hk => if_neg (by omega), if_pos rfl⟩
    obtain ⟨S2, h21, h22, h26⟩ : ∃ S2 : ZS, (∀ k, ¬ k = 26 → S2.1 k = S.1 k) ∧ S2.2 = S.2 ∧ S2.1 26 0 = x := ⟨(z_u S.1 26 0 x, S.2), fun k hk => by dsimp only; rw [z_u_o hk], rfl, by simp [z_u]⟩
    have e2 : z_ws cA q2 S2 (z_shC [z_lots]) ++ X = z_ws cA q2 S2 (z_shC []) ++ ([(a, .inr (3, [.int x]))] ++ X) := by
      have e3 : z_tl cA q2 S2 [z_lots] = [(a, .inr (3, [.int x]))] := by
        show ([(q2 26, .inr (3, [.int (S2.1 26 0)]))] : va_W) = _
        rw [hqa, h26]
      rw [z_ws_tl, List.append_assoc, e3]
    have hP2 : va_P D z_cl (z_ws cA q2 S2 (z_shC [z_lots]) ++ X) H := by
      rw [e2]
      exact z_Pm hq2 (fun k hk => h21 k (by omega)) (fun k hk => by rw [h22]) hP
    have hD2 : va_D A (z_ws cA q2 S2 (z_shC [z_lots]) ++ X) := by
      rw [e2]
      exact z_Dm hq2 hD
    have hL2 : z_L q2 ls 7 [some (.ref 0), some (.int x), some (.int w), none, none, none, none] := by
      refine ⟨hL.1, hL.2.1, fun i v hv => ?_⟩
      have h0 := hL.2.2 i v hv
      match i, hv with
      | 0, hv => cases hv; rw [h0]; show _ = some (Slot.val (.ref (q2 0))); rw [hq2 0 (by omega)]; rfl
      | 1, hv => cases hv; exact h0
      | 2, hv => cases hv; exact h0
      | 3, hv => cases hv
      | 4, hv => cases hv
      | 5, hv => cases hv
      | 6, hv => cases hv
      | i + 7, hv => cases hv
    have Z2 := z_ev_ok (l := l) (e := e) (R := (headSpec (Cond.code yX7_coming cX7_coming 7 (some .int) :: lw_g) ({ frames := 4, cells := 1, slots := 1, locals := 89 } : Room)).room) (below := below) (q := q2) (ex := X) (ρ := fun r S' => r = some (.int (q_coming T x w)) ∧ CR T S') (mc := 1) C2 z_fX7_ok z_kX7_ok (co_X7_coming T) ⟨Nat.le_refl 1, Nat.le_refl 1⟩
    have W2 := pu2_X7_coming T (tl := []) (x := x) (w := w) (S := S2) (post := fun r S' => r = some (.int (q_coming T x w)) ∧ CR T S') (CR_26 hC h21) h26 hw2 (fun S' h => ⟨rfl, h⟩) _ Z2
    have W2 := W2 H locs ls hP2 hD2 hS hL2
    intro TT hTT XX
    obtain ⟨t2, st, o, hr1, hr2, ⟨⟨r, S3, ho, ⟨hr, hC3⟩, hPf⟩, hF⟩, hfr⟩ := W2 TT hTT XX
    have st : Steps p.tables e below (TT.setTop (F0 m 20 ls [.ref a])) t2 := by rw [← hqa]; exact st
    subst hr
    refine ⟨t2, st, o, hr1, hr2, ⟨⟨some (.int (q_coming T x w)), (fun k => if k < 26 then S3.1 k else S.1 k, fun k => if k < 26 then S3.2 k else S.2 k), ho, hk _ (CR_lt hC3 (fun k hk => if_pos hk)), ?_⟩, hF⟩, hfr⟩
    rw [z_ws_tl, List.append_assoc, z_tl_c (S := S) (fun k hk => if_neg (by omega)) (fun k hk => if_neg (by omega)), hX]
    rw [z_ws_tl, List.append_assoc] at hPf
    refine z_Pm (q := q2) (S := S3) (fun k hk => (hq2 k hk).symm) (fun k hk => if_pos hk) (fun k hk => if_pos hk) ?_
    exact z_drP hPf
  · exact hw.elim
theorem rec_X7_coming (T : ZT) {tl : List ZE} : z_rec (z_shC tl) (wp_X7_coming T) 6 := by
  intro as S post h
  unfold wp_X7_coming at h
  split at h
  · exact ⟨_, _, _, rfl, rfl⟩
  · exact h.elim

