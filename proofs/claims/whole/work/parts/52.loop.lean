theorem lz_test {p : Program} {l : Launch} {e : Env} {s : State} {m : MethodId} {below : List Frame} {meth : Method} {c : Code} {D : va_G} {cA cM : Nat → ClassId} {q qM : Nat → Nat} {b L : Nat} {xs : Nat → Int32} {Q : State → Prop} (C : lz_C p s m c D cA cM b L xs) (hend : ∀ (H : Heap) (ls : Array Slot), W p l e room_1 s m #[.ref b] below meth c H [] 846983 6561299 Q (F0 m 1289 ls [.int 1])) {i g : Nat} {S S' : ZS} (h2 : i ≤ 3072) (hg : g ≤ 846983) (h : i + 6 ≤ L → lz_W p l e s m below meth c D cA cM q qM b Q g 27 (nI i) [] S S') : lz_W p l e s m below meth c D cA cM q qM b Q g 18 (nI i) [] S S' := by
  intro H locs ls hP hD hS hl
  obtain ⟨hx, hb, hml, hown, hts, hKc, hKm, hX, hbl, hL⟩ := id C
  refine lv_iload_n hx hb dL_law_18 rfl (lv_at hl 0 rfl) ?_
  refine lv_aload_n hx hb dL_law_19 rfl (lv_at hl 3 rfl) ?_
  refine va_slen hx hb hX hbl (Nat.not_le.mpr hbl) hS dL_law_20 ?_
  refine lv_bipush hx hb (v := 6) dL_law_21 zb_6 ?_
  refine lv_isub hx hb dL_law_23 ?_
  refine lv_icmp_gt hx hb (tgt := 1288) dL_law_24 (by decide) (fun _ => ?_) (fun hle => ?_)
  · refine lv_iconst hx hb (v := 1) dL_law_1288 zi_1 ?_
    refine va_forget hS.2.2 ?_
    exact W.widen hg (Nat.le_trans hg (Nat.le_of_ble_eq_true rfl)) (hend H ls)
  · have hi : i + 6 ≤ L := Nat.not_lt.mp (fun z => hle ((lz_cmp hL h2).mpr z))
    exact h hi H locs ls hP hD hS hl
set_option maxHeartbeats 4000000 in
theorem lz_loop {p : Program} {l : Launch} {e : Env} {s : State} {m : MethodId} {below : List Frame} {meth : Method} {c : Code} {D : va_G} {cA cM : Nat → ClassId} {q qM : Nat → Nat} {b L : Nat} {xs : Nat → Int32} {Q : State → Prop} (C : lz_C p s m c D cA cM b L xs) (hend : ∀ (H : Heap) (ls : Array Slot), W p l e room_1 s m #[.ref b] below meth c H [] 846983 6561299 Q (F0 m 1289 ls [.int 1])) : ∀ (n i : Nat) (T : ZT) (S S' : ZS) (g : Nat), L < i + 6 * n → i ≤ 3072 → g + 2 * n ≤ 846983 → CR T S → MR T S' → lz_W p l e s m below meth c D cA cM q qM b Q g 18 (nI i) [] S S' := by
  intro n
  induction n with
  | zero =>
    intro i T S S' g h1 h2 h3 hC hM
    exact lz_test C hend h2 (by omega) (fun z => absurd z (by omega))
  | succ n ih =>
    intro i T S S' g h1 h2 h3 hC hM
    refine lz_test C hend h2 (by omega) (fun hi => ?_)
    intro H locs ls hP hD hS hl
    obtain ⟨hx, hb, hml, hown, hts, hKc, hKm, hX, hbl, hL⟩ := id C
    refine lv_aload_n hx hb dL_law_27 rfl (lv_at hl 3 rfl) ?_
    refine lv_iload_n hx hb dL_law_28 rfl (lv_at hl 0 rfl) ?_
    refine va_sld hx hb hX hbl (Nat.not_le.mpr hbl) hS (n_in (by omega) (by omega)) dL_law_29 ?_
    rw [n_cl (by omega)]
    refine lv_bipush hx hb (v := 63) dL_law_30 zb_63 ?_
    refine lv_iand hx hb dL_law_32 ?_
    obtain ⟨v, hv, ev9⟩ := lz_and (xs i)
    rw [ev9]
    have next : ∀ (g2 : Nat) (T2 : ZT) (S2 S2' : ZS), g2 ≤ g + 2 → CR T2 S2 → MR T2 S2' → lz_W p l e s m below meth c D cA cM q qM b Q g2 1282 (nI i) [] S2 S2' := fun g2 T2 S2 S2' hg hC hM => lz_next C dL_law_1282 dL_law_1285 (ih (i + 6) T2 S2 S2' g2 (by omega) (by omega) (by omega) hC hM)
    rcases (show v = 0 ∨ v = 1 ∨ v = 2 ∨ v = 3 ∨ v = 4 ∨ v = 5 ∨ v = 6 ∨ v = 7 ∨ v = 8 ∨ v = 9 ∨ v = 10 ∨ v = 11 ∨ v = 12 ∨ v = 13 ∨ v = 14 ∨ v = 15 ∨ v = 16 ∨ v = 17 ∨ v = 18 ∨ v = 19 ∨ v = 20 ∨ v = 21 ∨ v = 22 ∨ v = 23 ∨ v = 24 ∨ v = 25 ∨ v = 26 ∨ v = 27 ∨ v = 28 ∨ v = 29 ∨ v = 30 ∨ v = 31 ∨ v = 32 ∨ v = 33 ∨ v = 34 ∨ v = 35 ∨ v = 36 ∨ 37 ≤ v by omega) with rfl | rfl | rfl | rfl | rfl | rfl | rfl | rfl | rfl | rfl | rfl | rfl | rfl | rfl | rfl | rfl | rfl | rfl | rfl | rfl | rfl | rfl | rfl | rfl | rfl | rfl | rfl | rfl | rfl | rfl | rfl | rfl | rfl | rfl | rfl | rfl | rfl | hv2
    · exact lv_tableIn hx hb (tgt := 196) (off := 163) dL_law_33 (by decide) (by decide) rfl (by decide) (lz_arm_0 C hC hM hi (by omega) next H locs ls hP hD hS hl)
    · exact lv_tableIn hx hb (tgt := 229) (off := 196) dL_law_33 (by decide) (by decide) rfl (by decide) (lz_arm_1 C hC hM hi (by omega) next H locs ls hP hD hS hl)
    · exact lv_tableIn hx hb (tgt := 252) (off := 219) dL_law_33 (by decide) (by decide) rfl (by decide) (lz_arm_2 C hC hM hi (by omega) next H locs ls hP hD hS hl)
    · exact lv_tableIn hx hb (tgt := 275) (off := 242) dL_law_33 (by decide) (by decide) rfl (by decide) (lz_arm_3 C hC hM hi (by omega) next H locs ls hP hD hS hl)
    · exact lv_tableIn hx hb (tgt := 298) (off := 265) dL_law_33 (by decide) (by decide) rfl (by decide) (lz_arm_4 C hC hM hi (by omega) next H locs ls hP hD hS hl)
    · exact lv_tableIn hx hb (tgt := 331) (off := 298) dL_law_33 (by decide) (by decide) rfl (by decide) (lz_arm_5 C hC hM hi (by omega) next H locs ls hP hD hS hl)
    · exact lv_tableIn hx hb (tgt := 364) (off := 331) dL_law_33 (by decide) (by decide) rfl (by decide) (lz_arm_6 C hC hM hi (by omega) next H locs ls hP hD hS hl)
    · exact lv_tableIn hx hb (tgt := 397) (off := 364) dL_law_33 (by decide) (by decide) rfl (by decide) (lz_arm_7 C hC hM hi (by omega) next H locs ls hP hD hS hl)
    · exact lv_tableIn hx hb (tgt := 420) (off := 387) dL_law_33 (by decide) (by decide) rfl (by decide) (lz_arm_8 C hC hM hi (by omega) next H locs ls hP hD hS hl)
    · exact lv_tableIn hx hb (tgt := 433) (off := 400) dL_law_33 (by decide) (by decide) rfl (by decide) (lz_arm_9 C hC hM hi (by omega) next H locs ls hP hD hS hl)
    · exact lv_tableIn hx hb (tgt := 456) (off := 423) dL_law_33 (by decide) (by decide) rfl (by decide) (lz_arm_10 C hC hM hi (by omega) next H locs ls hP hD hS hl)
    · exact lv_tableIn hx hb (tgt := 469) (off := 436) dL_law_33 (by decide) (by decide) rfl (by decide) (lz_arm_11 C hC hM hi (by omega) next H locs ls hP hD hS hl)
    · exact lv_tableIn hx hb (tgt := 492) (off := 459) dL_law_33 (by decide) (by decide) rfl (by decide) (lz_arm_12 C hC hM hi (by omega) next H locs ls hP hD hS hl)
    · exact lv_tableIn hx hb (tgt := 525) (off := 492) dL_law_33 (by decide) (by decide) rfl (by decide) (lz_arm_13 C hC hM hi (by omega) next H locs ls hP hD hS hl)
    · exact lv_tableIn hx hb (tgt := 538) (off := 505) dL_law_33 (by decide) (by decide) rfl (by decide) (lz_arm_14 C hC hM hi (by omega) next H locs ls hP hD hS hl)
    · exact lv_tableIn hx hb (tgt := 561) (off := 528) dL_law_33 (by decide) (by decide) rfl (by decide) (lz_arm_15 C hC hM hi (by omega) next H locs ls hP hD hS hl)
    · exact lv_tableIn hx hb (tgt := 574) (off := 541) dL_law_33 (by decide) (by decide) rfl (by decide) (lz_arm_16 C hC hM hi (by omega) next H locs ls hP hD hS hl)
    · exact lv_tableIn hx hb (tgt := 607) (off := 574) dL_law_33 (by decide) (by decide) rfl (by decide) (lz_arm_17 C hC hM hi (by omega) next H locs ls hP hD hS hl)
    · exact lv_tableIn hx hb (tgt := 651) (off := 618) dL_law_33 (by decide) (by decide) rfl (by decide) (lz_arm_18 C hC hM hi (by omega) next H locs ls hP hD hS hl)
    · exact lv_tableIn hx hb (tgt := 685) (off := 652) dL_law_33 (by decide) (by decide) rfl (by decide) (lz_arm_19 C hC hM hi (by omega) next H locs ls hP hD hS hl)
    · exact lv_tableIn hx hb (tgt := 729) (off := 696) dL_law_33 (by decide) (by decide) rfl (by decide) (lz_arm_20 C hC hM hi (by omega) next H locs ls hP hD hS hl)
    · exact lv_tableIn hx hb (tgt := 752) (off := 719) dL_law_33 (by decide) (by decide) rfl (by decide) (lz_arm_21 C hC hM hi (by omega) next H locs ls hP hD hS hl)
    · exact lv_tableIn hx hb (tgt := 775) (off := 742) dL_law_33 (by decide) (by decide) rfl (by decide) (lz_arm_22 C hC hM hi (by omega) next H locs ls hP hD hS hl)
    · exact lv_tableIn hx hb (tgt := 828) (off := 795) dL_law_33 (by decide) (by decide) rfl (by decide) (lz_arm_23 C hC hM hi (by omega) next H locs ls hP hD hS hl)
    · exact lv_tableIn hx hb (tgt := 851) (off := 818) dL_law_33 (by decide) (by decide) rfl (by decide) (lz_arm_24 C hC hM hi (by omega) next H locs ls hP hD hS hl)
    · exact lv_tableIn hx hb (tgt := 875) (off := 842) dL_law_33 (by decide) (by decide) rfl (by decide) (lz_arm_25 C hC hM hi (by omega) next H locs ls hP hD hS hl)
    · exact lv_tableIn hx hb (tgt := 918) (off := 885) dL_law_33 (by decide) (by decide) rfl (by decide) (lz_arm_26 C hC hM hi (by omega) next H locs ls hP hD hS hl)
    · exact lv_tableIn hx hb (tgt := 941) (off := 908) dL_law_33 (by decide) (by decide) rfl (by decide) (lz_arm_27 C hC hM hi (by omega) next H locs ls hP hD hS hl)
    · exact lv_tableIn hx hb (tgt := 954) (off := 921) dL_law_33 (by decide) (by decide) rfl (by decide) (lz_arm_28 C hC hM hi (by omega) next H locs ls hP hD hS hl)
    · exact lv_tableIn hx hb (tgt := 987) (off := 954) dL_law_33 (by decide) (by decide) rfl (by decide) (lz_arm_29 C hC hM hi (by omega) next H locs ls hP hD hS hl)
    · exact lv_tableIn hx hb (tgt := 1030) (off := 997) dL_law_33 (by decide) (by decide) rfl (by decide) (lz_arm_30 C hC hM hi (by omega) next H locs ls hP hD hS hl)
    · exact lv_tableIn hx hb (tgt := 1053) (off := 1020) dL_law_33 (by decide) (by decide) rfl (by decide) (lz_arm_31 C hC hM hi (by omega) next H locs ls hP hD hS hl)
    · exact lv_tableIn hx hb (tgt := 1106) (off := 1073) dL_law_33 (by decide) (by decide) rfl (by decide) (lz_arm_32 C hC hM hi (by omega) next H locs ls hP hD hS hl)
    · exact lv_tableIn hx hb (tgt := 1149) (off := 1116) dL_law_33 (by decide) (by decide) rfl (by decide) (lz_arm_33 C hC hM hi (by omega) next H locs ls hP hD hS hl)
    · exact lv_tableIn hx hb (tgt := 1212) (off := 1179) dL_law_33 (by decide) (by decide) rfl (by decide) (lz_arm_34 C hC hM hi (by omega) next H locs ls hP hD hS hl)
    · exact lv_tableIn hx hb (tgt := 1245) (off := 1212) dL_law_33 (by decide) (by decide) rfl (by decide) (lz_arm_35 C hC hM hi (by omega) next H locs ls hP hD hS hl)
    · exact lv_tableIn hx hb (tgt := 1268) (off := 1235) dL_law_33 (by decide) (by decide) rfl (by decide) (lz_arm_36 C hC hM hi (by omega) next H locs ls hP hD hS hl)
    · refine lv_tableOut hx hb (tgt := 1282) dL_law_33 (Or.inr ?_) (by decide) (next g T S S' (by omega) hC hM H locs ls hP hD hS hl)
      rw [n_ti (by omega)]
      omega
