set_option maxRecDepth 100000 in
theorem l_X7_rd_n {Γ : xΓ} {Ω : xW} {h : xH} {sz : Nat} (X : xX Γ Ω cX7_read 3 RX7 "read" (some .int) 7 245 7 21) {e : Nat} {fa : Int32} {bt : Nat → Int32} {t : Nat → Nat} {L q n : Nat} {pf : Nat → Option Nat} (hko : h (e + 13) = some (kO e (nI L) (nI n) fa (nI (tK t L q)) (nI (tS t L q)) (nI (tE t L q)))) (hbt : h (e + 14) = some (.inl (.byte, 300, .inl bt))) (hB : ∀ q, q < L → bt q = sb (t q)) (ht : ∀ q, q < L → t q < 256) (hL : L ≤ 300) (hq : q ≤ L) (hpf : h (e + 15) = some (.inl (.object "EvePost$Person", 6, .inr (.inr (.inr (.inr pf)))))) (hn6 : n ≤ 6) (hnz : 0 < n → ¬ tK t L q = 0) (hw : wdP t L q wl_person = false) : xG Γ Ω 3 (xQ Γ Ω (some (.int (nI (tS t L q)))) (xu h (e + 13) (.inr (6, [.ref (e + 14), .int (0), .ref (e + 15), .int (nI n), .int (1), .int (nI (tK t L q)), .int (nI (tS t L q)), .int (nI (tE t L q))]))) (sz) 7 21) 18 [(2, .int (nI n)), (1, .int 1), (0, .ref (e + 13))] ([]) h sz 6 18 := by
  have r1 : (tE t L q) ≤ L := (tE_rng hq).2
  have r2 : (tE t L (tE t L q)) ≤ L := (tE_rng r1).2
  have r3 : (tE t L (tE t L (tE t L q))) ≤ L := (tE_rng r2).2
  have r4 : (tE t L (tE t L (tE t L (tE t L q)))) ≤ L := (tE_rng r3).2
  have n2 := nuv_lt t L (tE t L (tE t L q)) r2
  have n3 := nuv_lt t L (tE t L (tE t L (tE t L q))) r3
  have kw1 := kiW_le t L (tE t L q)
  have tk4 := tK_le t L (tE t L (tE t L (tE t L (tE t L q))))
  have r5 : (tE t L (tE t L (tE t L (tE t L (tE t L q))))) ≤ L := (tE_rng r4).2
  have tkq := tK_le t L q
  refine xr_iload_n X 0 dX7_read_18 rfl rfl ?_
  refine xr_bipush (v := 6) X dX7_read_19 (by decide) ?_
  refine xr_icmp_gt (tgt := 53) X dX7_read_21 (by decide) (fun c_21 => absurd c_21 (by rw [i32_lt, k32_6, nI_toInt (by omega)]; omega)) (fun _ => ?_)
  refine xr_iload_n X 1 dX7_read_24 rfl rfl ?_
  refine xr_if_eq (tgt := 53) X dX7_read_25 (by decide) (fun c_25 => absurd c_25 (by decide)) (fun _ => ?_)
  refine xr_iload_n X 0 dX7_read_28 rfl rfl ?_
  refine xr_if_le (tgt := 42) X dX7_read_29 (by decide) (fun c_29 => ?_) (fun c_29 => ?_)
  · have c_29 := i32_le.mp c_29
    (try simp (disch := omega) only [nI_toInt, i32_add, i32_sub, i32_mul, i64_addl, i32_l, k32_0, k64_0] at c_29)
    refine xr_aload_n X 2 dX7_read_42 rfl rfl ?_
    refine xr_callV X hko rfl kw_328 kw_330 kw_4 cw_X7_readPerson [] (c_X7_rp_n hko hbt hB ht hL hq hpf hn6 hw) rfl rfl rfl rfl rfl rfl rfl dX7_read_43 ?_
    refine xr_istore_n (lv' := [(1, .int 0), (2, .int (nI n)), (0, .ref (e + 13))]) X dX7_read_46 rfl rfl rfl ?_
    refine xr_iinc (v := nI (n + 1)) (lv' := [(2, .int (nI (n + 1))), (1, .int 0), (0, .ref (e + 13))]) X 1 dX7_read_47 rfl (nI_1 _) rfl rfl ?_
    refine xr_goto (tgt := 18) X dX7_read_50 (by decide) ?_
    refine xr_iload_n X 0 dX7_read_18 rfl rfl ?_
    refine xr_bipush (v := 6) X dX7_read_19 (by decide) ?_
    refine xr_icmp_gt (tgt := 53) X dX7_read_21 (by decide) (fun c_21 => ?_) (fun c_21 => ?_)
    · have c_21 := i32_lt.mp c_21
      (try simp (disch := omega) only [nI_toInt, i32_add, i32_sub, i32_mul, i64_addl, i32_l, k32_1, k32_6, k64_1, k64_6] at c_21)
      refine xr_aload_n X 2 dX7_read_53 rfl rfl ?_
      refine xr_iconst (v := 0) X dX7_read_54 (by decide) ?_
      refine xr_put (fs' := [.ref (e + 14), .int 0, .ref (e + 15), .int (nI n), .int (1), .int (nI (tK t L q)), .int (nI (tS t L q)), .int (nI (tE t L q))]) X (fW_X7_15_6 _) (xu_s _ _ _) rfl rfl rfl rfl dX7_read_55 ?_
      refine xr_heap (h' := (xu h (e + 13) (.inr (6, [.ref (e + 14), .int 0, .ref (e + 15), .int (nI n), .int (1), .int (nI (tK t L q)), .int (nI (tS t L q)), .int (nI (tE t L q))])))) (xu_uu _ _ _ _) ?_
      refine xr_iload_n X 1 dX7_read_58 rfl rfl ?_
      refine xr_if_eq (tgt := 66) X dX7_read_59 (by decide) (fun _ => ?_) (fun c_59 => absurd rfl c_59)
      refine xr_aload_n X 2 dX7_read_66 rfl rfl ?_
      refine xr_get X fF_X7_34_6 (xu_s _ _ _) rfl dX7_read_67 ?_
      exact xr_iret X rfl rfl rfl rfl rfl rfl dX7_read_70
    · have c_21 := mt i32_lt.mpr c_21
      (try simp (disch := omega) only [nI_toInt, i32_add, i32_sub, i32_mul, i64_addl, i32_l, k32_1, k32_6, k64_1, k64_6] at c_21)
      refine xr_iload_n X 1 dX7_read_24 rfl rfl ?_
      refine xr_if_eq (tgt := 53) X dX7_read_25 (by decide) (fun _ => ?_) (fun c_25 => absurd rfl c_25)
      refine xr_aload_n X 2 dX7_read_53 rfl rfl ?_
      refine xr_iconst (v := 0) X dX7_read_54 (by decide) ?_
      refine xr_put (fs' := [.ref (e + 14), .int 0, .ref (e + 15), .int (nI n), .int (1), .int (nI (tK t L q)), .int (nI (tS t L q)), .int (nI (tE t L q))]) X (fW_X7_15_6 _) (xu_s _ _ _) rfl rfl rfl rfl dX7_read_55 ?_
      refine xr_heap (h' := (xu h (e + 13) (.inr (6, [.ref (e + 14), .int 0, .ref (e + 15), .int (nI n), .int (1), .int (nI (tK t L q)), .int (nI (tS t L q)), .int (nI (tE t L q))])))) (xu_uu _ _ _ _) ?_
      refine xr_iload_n X 1 dX7_read_58 rfl rfl ?_
      refine xr_if_eq (tgt := 66) X dX7_read_59 (by decide) (fun _ => ?_) (fun c_59 => absurd rfl c_59)
      refine xr_aload_n X 2 dX7_read_66 rfl rfl ?_
      refine xr_get X fF_X7_34_6 (xu_s _ _ _) rfl dX7_read_67 ?_
      exact xr_iret X rfl rfl rfl rfl rfl rfl dX7_read_70
  · have c_29 := mt i32_le.mpr c_29
    (try simp (disch := omega) only [nI_toInt, i32_add, i32_sub, i32_mul, i64_addl, i32_l, k32_0, k64_0] at c_29)
    refine xr_aload_n X 2 dX7_read_32 rfl rfl ?_
    refine xr_get X fF_X7_31_6 hko rfl dX7_read_33 ?_
    refine xr_if_ne (tgt := 42) X dX7_read_36 (by decide) (fun _ => ?_) (fun c_36 => absurd c_36 (nI_ne0 (Nat.pos_of_ne_zero (hnz (by omega))) (by omega)))
    refine xr_aload_n X 2 dX7_read_42 rfl rfl ?_
    refine xr_callV X hko rfl kw_328 kw_330 kw_4 cw_X7_readPerson [] (c_X7_rp_n hko hbt hB ht hL hq hpf hn6 hw) rfl rfl rfl rfl rfl rfl rfl dX7_read_43 ?_
    refine xr_istore_n (lv' := [(1, .int 0), (2, .int (nI n)), (0, .ref (e + 13))]) X dX7_read_46 rfl rfl rfl ?_
    refine xr_iinc (v := nI (n + 1)) (lv' := [(2, .int (nI (n + 1))), (1, .int 0), (0, .ref (e + 13))]) X 1 dX7_read_47 rfl (nI_1 _) rfl rfl ?_
    refine xr_goto (tgt := 18) X dX7_read_50 (by decide) ?_
    refine xr_iload_n X 0 dX7_read_18 rfl rfl ?_
    refine xr_bipush (v := 6) X dX7_read_19 (by decide) ?_
    refine xr_icmp_gt (tgt := 53) X dX7_read_21 (by decide) (fun c_21 => ?_) (fun c_21 => ?_)
    · have c_21 := i32_lt.mp c_21
      (try simp (disch := omega) only [nI_toInt, i32_add, i32_sub, i32_mul, i64_addl, i32_l, k32_1, k32_6, k64_1, k64_6] at c_21)
      refine xr_aload_n X 2 dX7_read_53 rfl rfl ?_
      refine xr_iconst (v := 0) X dX7_read_54 (by decide) ?_
      refine xr_put (fs' := [.ref (e + 14), .int 0, .ref (e + 15), .int (nI n), .int (1), .int (nI (tK t L q)), .int (nI (tS t L q)), .int (nI (tE t L q))]) X (fW_X7_15_6 _) (xu_s _ _ _) rfl rfl rfl rfl dX7_read_55 ?_
      refine xr_heap (h' := (xu h (e + 13) (.inr (6, [.ref (e + 14), .int 0, .ref (e + 15), .int (nI n), .int (1), .int (nI (tK t L q)), .int (nI (tS t L q)), .int (nI (tE t L q))])))) (xu_uu _ _ _ _) ?_
      refine xr_iload_n X 1 dX7_read_58 rfl rfl ?_
      refine xr_if_eq (tgt := 66) X dX7_read_59 (by decide) (fun _ => ?_) (fun c_59 => absurd rfl c_59)
      refine xr_aload_n X 2 dX7_read_66 rfl rfl ?_
      refine xr_get X fF_X7_34_6 (xu_s _ _ _) rfl dX7_read_67 ?_
      exact xr_iret X rfl rfl rfl rfl rfl rfl dX7_read_70
    · have c_21 := mt i32_lt.mpr c_21
      (try simp (disch := omega) only [nI_toInt, i32_add, i32_sub, i32_mul, i64_addl, i32_l, k32_1, k32_6, k64_1, k64_6] at c_21)
      refine xr_iload_n X 1 dX7_read_24 rfl rfl ?_
      refine xr_if_eq (tgt := 53) X dX7_read_25 (by decide) (fun _ => ?_) (fun c_25 => absurd rfl c_25)
      refine xr_aload_n X 2 dX7_read_53 rfl rfl ?_
      refine xr_iconst (v := 0) X dX7_read_54 (by decide) ?_
      refine xr_put (fs' := [.ref (e + 14), .int 0, .ref (e + 15), .int (nI n), .int (1), .int (nI (tK t L q)), .int (nI (tS t L q)), .int (nI (tE t L q))]) X (fW_X7_15_6 _) (xu_s _ _ _) rfl rfl rfl rfl dX7_read_55 ?_
      refine xr_heap (h' := (xu h (e + 13) (.inr (6, [.ref (e + 14), .int 0, .ref (e + 15), .int (nI n), .int (1), .int (nI (tK t L q)), .int (nI (tS t L q)), .int (nI (tE t L q))])))) (xu_uu _ _ _ _) ?_
      refine xr_iload_n X 1 dX7_read_58 rfl rfl ?_
      refine xr_if_eq (tgt := 66) X dX7_read_59 (by decide) (fun _ => ?_) (fun c_59 => absurd rfl c_59)
      refine xr_aload_n X 2 dX7_read_66 rfl rfl ?_
      refine xr_get X fF_X7_34_6 (xu_s _ _ _) rfl dX7_read_67 ?_
      exact xr_iret X rfl rfl rfl rfl rfl rfl dX7_read_70
set_option maxRecDepth 100000 in
theorem l_X7_rd_3 {Γ : xΓ} {Ω : xW} {h : xH} {sz : Nat} (X : xX Γ Ω cX7_read 3 RX7 "read" (some .int) 7 245 7 21) {e : Nat} {fa : Int32} {bt : Nat → Int32} {t : Nat → Nat} {L q n : Nat} {pf : Nat → Option Nat} (hko : h (e + 13) = some (kO e (nI L) (nI n) fa (nI (tK t L q)) (nI (tS t L q)) (nI (tE t L q)))) (hbt : h (e + 14) = some (.inl (.byte, 300, .inl bt))) (hB : ∀ q, q < L → bt q = sb (t q)) (ht : ∀ q, q < L → t q < 256) (hL : L ≤ 300) (hq : q ≤ L) (hpf : h (e + 15) = some (.inl (.object "EvePost$Person", 6, .inr (.inr (.inr (.inr pf)))))) (hn6 : n ≤ 6) (hnz : 0 < n → ¬ tK t L q = 0) (hw : wdP t L q wl_person = true) (h6 : n = 6) : xG Γ Ω 3 (xQ Γ Ω (some (.int (nI (tS t L q)))) (xu h (e + 13) (.inr (6, [.ref (e + 14), .int (0), .ref (e + 15), .int (nI n), .int (3), .int (nI (tK t L q)), .int (nI (tS t L q)), .int (nI (tE t L q))]))) (sz) 7 21) 18 [(2, .int (nI n)), (1, .int 1), (0, .ref (e + 13))] ([]) h sz 6 18 := by
  have r1 : (tE t L q) ≤ L := (tE_rng hq).2
  have r2 : (tE t L (tE t L q)) ≤ L := (tE_rng r1).2
  have r3 : (tE t L (tE t L (tE t L q))) ≤ L := (tE_rng r2).2
  have r4 : (tE t L (tE t L (tE t L (tE t L q)))) ≤ L := (tE_rng r3).2
  have n2 := nuv_lt t L (tE t L (tE t L q)) r2
  have n3 := nuv_lt t L (tE t L (tE t L (tE t L q))) r3
  have kw1 := kiW_le t L (tE t L q)
  have tk4 := tK_le t L (tE t L (tE t L (tE t L (tE t L q))))
  have r5 : (tE t L (tE t L (tE t L (tE t L (tE t L q))))) ≤ L := (tE_rng r4).2
  have tkq := tK_le t L q
  refine xr_iload_n X 0 dX7_read_18 rfl rfl ?_
  refine xr_bipush (v := 6) X dX7_read_19 (by decide) ?_
  refine xr_icmp_gt (tgt := 53) X dX7_read_21 (by decide) (fun c_21 => absurd c_21 (by rw [i32_lt, k32_6, nI_toInt (by omega)]; omega)) (fun _ => ?_)
  refine xr_iload_n X 1 dX7_read_24 rfl rfl ?_
  refine xr_if_eq (tgt := 53) X dX7_read_25 (by decide) (fun c_25 => absurd c_25 (by decide)) (fun _ => ?_)
  refine xr_iload_n X 0 dX7_read_28 rfl rfl ?_
  refine xr_if_le (tgt := 42) X dX7_read_29 (by decide) (fun c_29 => ?_) (fun c_29 => ?_)
  · have c_29 := i32_le.mp c_29
    (try simp (disch := omega) only [nI_toInt, i32_add, i32_sub, i32_mul, i64_addl, i32_l, k32_0, k64_0] at c_29)
    refine xr_aload_n X 2 dX7_read_42 rfl rfl ?_
    refine xr_callV X hko rfl kw_328 kw_330 kw_4 cw_X7_readPerson [] (c_X7_rp_3 hko hbt hB ht hL hq hpf hn6 hw h6) rfl rfl rfl rfl rfl rfl rfl dX7_read_43 ?_
    refine xr_istore_n (lv' := [(1, .int 0), (2, .int (nI n)), (0, .ref (e + 13))]) X dX7_read_46 rfl rfl rfl ?_
    refine xr_iinc (v := nI (n + 1)) (lv' := [(2, .int (nI (n + 1))), (1, .int 0), (0, .ref (e + 13))]) X 1 dX7_read_47 rfl (nI_1 _) rfl rfl ?_
    refine xr_goto (tgt := 18) X dX7_read_50 (by decide) ?_
    refine xr_iload_n X 0 dX7_read_18 rfl rfl ?_
    refine xr_bipush (v := 6) X dX7_read_19 (by decide) ?_
    refine xr_icmp_gt (tgt := 53) X dX7_read_21 (by decide) (fun c_21 => ?_) (fun c_21 => ?_)
    · have c_21 := i32_lt.mp c_21
      (try simp (disch := omega) only [nI_toInt, i32_add, i32_sub, i32_mul, i64_addl, i32_l, k32_1, k32_6, k64_1, k64_6] at c_21)
      refine xr_aload_n X 2 dX7_read_53 rfl rfl ?_
      refine xr_iconst (v := 0) X dX7_read_54 (by decide) ?_
      refine xr_put (fs' := [.ref (e + 14), .int 0, .ref (e + 15), .int (nI n), .int (3), .int (nI (tK t L q)), .int (nI (tS t L q)), .int (nI (tE t L q))]) X (fW_X7_15_6 _) (xu_s _ _ _) rfl rfl rfl rfl dX7_read_55 ?_
      refine xr_heap (h' := (xu h (e + 13) (.inr (6, [.ref (e + 14), .int 0, .ref (e + 15), .int (nI n), .int (3), .int (nI (tK t L q)), .int (nI (tS t L q)), .int (nI (tE t L q))])))) (xu_uu _ _ _ _) ?_
      refine xr_iload_n X 1 dX7_read_58 rfl rfl ?_
      refine xr_if_eq (tgt := 66) X dX7_read_59 (by decide) (fun _ => ?_) (fun c_59 => absurd rfl c_59)
      refine xr_aload_n X 2 dX7_read_66 rfl rfl ?_
      refine xr_get X fF_X7_34_6 (xu_s _ _ _) rfl dX7_read_67 ?_
      exact xr_iret X rfl rfl rfl rfl rfl rfl dX7_read_70
    · have c_21 := mt i32_lt.mpr c_21
      (try simp (disch := omega) only [nI_toInt, i32_add, i32_sub, i32_mul, i64_addl, i32_l, k32_1, k32_6, k64_1, k64_6] at c_21)
      refine xr_iload_n X 1 dX7_read_24 rfl rfl ?_
      refine xr_if_eq (tgt := 53) X dX7_read_25 (by decide) (fun _ => ?_) (fun c_25 => absurd rfl c_25)
      refine xr_aload_n X 2 dX7_read_53 rfl rfl ?_
      refine xr_iconst (v := 0) X dX7_read_54 (by decide) ?_
      refine xr_put (fs' := [.ref (e + 14), .int 0, .ref (e + 15), .int (nI n), .int (3), .int (nI (tK t L q)), .int (nI (tS t L q)), .int (nI (tE t L q))]) X (fW_X7_15_6 _) (xu_s _ _ _) rfl rfl rfl rfl dX7_read_55 ?_
      refine xr_heap (h' := (xu h (e + 13) (.inr (6, [.ref (e + 14), .int 0, .ref (e + 15), .int (nI n), .int (3), .int (nI (tK t L q)), .int (nI (tS t L q)), .int (nI (tE t L q))])))) (xu_uu _ _ _ _) ?_
      refine xr_iload_n X 1 dX7_read_58 rfl rfl ?_
      refine xr_if_eq (tgt := 66) X dX7_read_59 (by decide) (fun _ => ?_) (fun c_59 => absurd rfl c_59)
      refine xr_aload_n X 2 dX7_read_66 rfl rfl ?_
      refine xr_get X fF_X7_34_6 (xu_s _ _ _) rfl dX7_read_67 ?_
      exact xr_iret X rfl rfl rfl rfl rfl rfl dX7_read_70
  · have c_29 := mt i32_le.mpr c_29
    (try simp (disch := omega) only [nI_toInt, i32_add, i32_sub, i32_mul, i64_addl, i32_l, k32_0, k64_0] at c_29)
    refine xr_aload_n X 2 dX7_read_32 rfl rfl ?_
    refine xr_get X fF_X7_31_6 hko rfl dX7_read_33 ?_
    refine xr_if_ne (tgt := 42) X dX7_read_36 (by decide) (fun _ => ?_) (fun c_36 => absurd c_36 (nI_ne0 (Nat.pos_of_ne_zero (hnz (by omega))) (by omega)))
    refine xr_aload_n X 2 dX7_read_42 rfl rfl ?_
    refine xr_callV X hko rfl kw_328 kw_330 kw_4 cw_X7_readPerson [] (c_X7_rp_3 hko hbt hB ht hL hq hpf hn6 hw h6) rfl rfl rfl rfl rfl rfl rfl dX7_read_43 ?_
    refine xr_istore_n (lv' := [(1, .int 0), (2, .int (nI n)), (0, .ref (e + 13))]) X dX7_read_46 rfl rfl rfl ?_
    refine xr_iinc (v := nI (n + 1)) (lv' := [(2, .int (nI (n + 1))), (1, .int 0), (0, .ref (e + 13))]) X 1 dX7_read_47 rfl (nI_1 _) rfl rfl ?_
    refine xr_goto (tgt := 18) X dX7_read_50 (by decide) ?_
    refine xr_iload_n X 0 dX7_read_18 rfl rfl ?_
    refine xr_bipush (v := 6) X dX7_read_19 (by decide) ?_
    refine xr_icmp_gt (tgt := 53) X dX7_read_21 (by decide) (fun c_21 => ?_) (fun c_21 => ?_)
    · have c_21 := i32_lt.mp c_21
      (try simp (disch := omega) only [nI_toInt, i32_add, i32_sub, i32_mul, i64_addl, i32_l, k32_1, k32_6, k64_1, k64_6] at c_21)
      refine xr_aload_n X 2 dX7_read_53 rfl rfl ?_
      refine xr_iconst (v := 0) X dX7_read_54 (by decide) ?_
      refine xr_put (fs' := [.ref (e + 14), .int 0, .ref (e + 15), .int (nI n), .int (3), .int (nI (tK t L q)), .int (nI (tS t L q)), .int (nI (tE t L q))]) X (fW_X7_15_6 _) (xu_s _ _ _) rfl rfl rfl rfl dX7_read_55 ?_
      refine xr_heap (h' := (xu h (e + 13) (.inr (6, [.ref (e + 14), .int 0, .ref (e + 15), .int (nI n), .int (3), .int (nI (tK t L q)), .int (nI (tS t L q)), .int (nI (tE t L q))])))) (xu_uu _ _ _ _) ?_
      refine xr_iload_n X 1 dX7_read_58 rfl rfl ?_
      refine xr_if_eq (tgt := 66) X dX7_read_59 (by decide) (fun _ => ?_) (fun c_59 => absurd rfl c_59)
      refine xr_aload_n X 2 dX7_read_66 rfl rfl ?_
      refine xr_get X fF_X7_34_6 (xu_s _ _ _) rfl dX7_read_67 ?_
      exact xr_iret X rfl rfl rfl rfl rfl rfl dX7_read_70
    · have c_21 := mt i32_lt.mpr c_21
      (try simp (disch := omega) only [nI_toInt, i32_add, i32_sub, i32_mul, i64_addl, i32_l, k32_1, k32_6, k64_1, k64_6] at c_21)
      refine xr_iload_n X 1 dX7_read_24 rfl rfl ?_
      refine xr_if_eq (tgt := 53) X dX7_read_25 (by decide) (fun _ => ?_) (fun c_25 => absurd rfl c_25)
      refine xr_aload_n X 2 dX7_read_53 rfl rfl ?_
      refine xr_iconst (v := 0) X dX7_read_54 (by decide) ?_
      refine xr_put (fs' := [.ref (e + 14), .int 0, .ref (e + 15), .int (nI n), .int (3), .int (nI (tK t L q)), .int (nI (tS t L q)), .int (nI (tE t L q))]) X (fW_X7_15_6 _) (xu_s _ _ _) rfl rfl rfl rfl dX7_read_55 ?_
      refine xr_heap (h' := (xu h (e + 13) (.inr (6, [.ref (e + 14), .int 0, .ref (e + 15), .int (nI n), .int (3), .int (nI (tK t L q)), .int (nI (tS t L q)), .int (nI (tE t L q))])))) (xu_uu _ _ _ _) ?_
      refine xr_iload_n X 1 dX7_read_58 rfl rfl ?_
      refine xr_if_eq (tgt := 66) X dX7_read_59 (by decide) (fun _ => ?_) (fun c_59 => absurd rfl c_59)
      refine xr_aload_n X 2 dX7_read_66 rfl rfl ?_
      refine xr_get X fF_X7_34_6 (xu_s _ _ _) rfl dX7_read_67 ?_
      exact xr_iret X rfl rfl rfl rfl rfl rfl dX7_read_70
set_option maxRecDepth 100000 in
theorem l_X7_rd_k {Γ : xΓ} {Ω : xW} {h : xH} {sz : Nat} (X : xX Γ Ω cX7_read 3 RX7 "read" (some .int) 7 245 7 21) {e : Nat} {fa : Int32} {bt : Nat → Int32} {t : Nat → Nat} {L q n : Nat} {pf : Nat → Option Nat} (hko : h (e + 13) = some (kO e (nI L) (nI n) fa (nI (tK t L q)) (nI (tS t L q)) (nI (tE t L q)))) (hbt : h (e + 14) = some (.inl (.byte, 300, .inl bt))) (hB : ∀ q, q < L → bt q = sb (t q)) (ht : ∀ q, q < L → t q < 256) (hL : L ≤ 300) (hq : q ≤ L) (hpf : h (e + 15) = some (.inl (.object "EvePost$Person", 6, .inr (.inr (.inr (.inr pf)))))) (hn6 : n ≤ 6) (hnz : 0 < n → ¬ tK t L q = 0) (hw : wdP t L q wl_person = true) (h6 : n < 6) (hk : kiW t L (tE t L q) = 0) : xG Γ Ω 3 (xQ Γ Ω (some (.int (nI (tS t L (tE t L q))))) (xu h (e + 13) (.inr (6, [.ref (e + 14), .int (0), .ref (e + 15), .int (nI n), .int (1), .int (nI (tK t L (tE t L q))), .int (nI (tS t L (tE t L q))), .int (nI (tE t L (tE t L q)))]))) (sz) 7 21) 18 [(2, .int (nI n)), (1, .int 1), (0, .ref (e + 13))] ([]) h sz 6 18 := by
  have r1 : (tE t L q) ≤ L := (tE_rng hq).2
  have r2 : (tE t L (tE t L q)) ≤ L := (tE_rng r1).2
  have r3 : (tE t L (tE t L (tE t L q))) ≤ L := (tE_rng r2).2
  have r4 : (tE t L (tE t L (tE t L (tE t L q)))) ≤ L := (tE_rng r3).2
  have n2 := nuv_lt t L (tE t L (tE t L q)) r2
  have n3 := nuv_lt t L (tE t L (tE t L (tE t L q))) r3
  have kw1 := kiW_le t L (tE t L q)
  have tk4 := tK_le t L (tE t L (tE t L (tE t L (tE t L q))))
  have r5 : (tE t L (tE t L (tE t L (tE t L (tE t L q))))) ≤ L := (tE_rng r4).2
  have tkq := tK_le t L q
  refine xr_iload_n X 0 dX7_read_18 rfl rfl ?_
  refine xr_bipush (v := 6) X dX7_read_19 (by decide) ?_
  refine xr_icmp_gt (tgt := 53) X dX7_read_21 (by decide) (fun c_21 => absurd c_21 (by rw [i32_lt, k32_6, nI_toInt (by omega)]; omega)) (fun _ => ?_)
  refine xr_iload_n X 1 dX7_read_24 rfl rfl ?_
  refine xr_if_eq (tgt := 53) X dX7_read_25 (by decide) (fun c_25 => absurd c_25 (by decide)) (fun _ => ?_)
  refine xr_iload_n X 0 dX7_read_28 rfl rfl ?_
  refine xr_if_le (tgt := 42) X dX7_read_29 (by decide) (fun c_29 => ?_) (fun c_29 => ?_)
  · have c_29 := i32_le.mp c_29
    (try simp (disch := omega) only [nI_toInt, i32_add, i32_sub, i32_mul, i64_addl, i32_l, k32_0, k64_0] at c_29)
    refine xr_aload_n X 2 dX7_read_42 rfl rfl ?_
    refine xr_callV X hko rfl kw_328 kw_330 kw_4 cw_X7_readPerson [] (c_X7_rp_k hko hbt hB ht hL hq hpf hn6 hw h6 hk) rfl rfl rfl rfl rfl rfl rfl dX7_read_43 ?_
    refine xr_istore_n (lv' := [(1, .int 0), (2, .int (nI n)), (0, .ref (e + 13))]) X dX7_read_46 rfl rfl rfl ?_
    refine xr_iinc (v := nI (n + 1)) (lv' := [(2, .int (nI (n + 1))), (1, .int 0), (0, .ref (e + 13))]) X 1 dX7_read_47 rfl (nI_1 _) rfl rfl ?_
    refine xr_goto (tgt := 18) X dX7_read_50 (by decide) ?_
    refine xr_iload_n X 0 dX7_read_18 rfl rfl ?_
    refine xr_bipush (v := 6) X dX7_read_19 (by decide) ?_
    refine xr_icmp_gt (tgt := 53) X dX7_read_21 (by decide) (fun c_21 => ?_) (fun c_21 => ?_)
    · have c_21 := i32_lt.mp c_21
      (try simp (disch := omega) only [nI_toInt, i32_add, i32_sub, i32_mul, i64_addl, i32_l, k32_1, k32_6, k64_1, k64_6] at c_21)
      refine xr_aload_n X 2 dX7_read_53 rfl rfl ?_
      refine xr_iconst (v := 0) X dX7_read_54 (by decide) ?_
      refine xr_put (fs' := [.ref (e + 14), .int 0, .ref (e + 15), .int (nI n), .int (1), .int (nI (tK t L (tE t L q))), .int (nI (tS t L (tE t L q))), .int (nI (tE t L (tE t L q)))]) X (fW_X7_15_6 _) (xu_s _ _ _) rfl rfl rfl rfl dX7_read_55 ?_
      refine xr_heap (h' := (xu h (e + 13) (.inr (6, [.ref (e + 14), .int 0, .ref (e + 15), .int (nI n), .int (1), .int (nI (tK t L (tE t L q))), .int (nI (tS t L (tE t L q))), .int (nI (tE t L (tE t L q)))])))) (xu_uu _ _ _ _) ?_
      refine xr_iload_n X 1 dX7_read_58 rfl rfl ?_
      refine xr_if_eq (tgt := 66) X dX7_read_59 (by decide) (fun _ => ?_) (fun c_59 => absurd rfl c_59)
      refine xr_aload_n X 2 dX7_read_66 rfl rfl ?_
      refine xr_get X fF_X7_34_6 (xu_s _ _ _) rfl dX7_read_67 ?_
      exact xr_iret X rfl rfl rfl rfl rfl rfl dX7_read_70
    · have c_21 := mt i32_lt.mpr c_21
      (try simp (disch := omega) only [nI_toInt, i32_add, i32_sub, i32_mul, i64_addl, i32_l, k32_1, k32_6, k64_1, k64_6] at c_21)
      refine xr_iload_n X 1 dX7_read_24 rfl rfl ?_
      refine xr_if_eq (tgt := 53) X dX7_read_25 (by decide) (fun _ => ?_) (fun c_25 => absurd rfl c_25)
      refine xr_aload_n X 2 dX7_read_53 rfl rfl ?_
      refine xr_iconst (v := 0) X dX7_read_54 (by decide) ?_
      refine xr_put (fs' := [.ref (e + 14), .int 0, .ref (e + 15), .int (nI n), .int (1), .int (nI (tK t L (tE t L q))), .int (nI (tS t L (tE t L q))), .int (nI (tE t L (tE t L q)))]) X (fW_X7_15_6 _) (xu_s _ _ _) rfl rfl rfl rfl dX7_read_55 ?_
      refine xr_heap (h' := (xu h (e + 13) (.inr (6, [.ref (e + 14), .int 0, .ref (e + 15), .int (nI n), .int (1), .int (nI (tK t L (tE t L q))), .int (nI (tS t L (tE t L q))), .int (nI (tE t L (tE t L q)))])))) (xu_uu _ _ _ _) ?_
      refine xr_iload_n X 1 dX7_read_58 rfl rfl ?_
      refine xr_if_eq (tgt := 66) X dX7_read_59 (by decide) (fun _ => ?_) (fun c_59 => absurd rfl c_59)
      refine xr_aload_n X 2 dX7_read_66 rfl rfl ?_
      refine xr_get X fF_X7_34_6 (xu_s _ _ _) rfl dX7_read_67 ?_
      exact xr_iret X rfl rfl rfl rfl rfl rfl dX7_read_70
  · have c_29 := mt i32_le.mpr c_29
    (try simp (disch := omega) only [nI_toInt, i32_add, i32_sub, i32_mul, i64_addl, i32_l, k32_0, k64_0] at c_29)
    refine xr_aload_n X 2 dX7_read_32 rfl rfl ?_
    refine xr_get X fF_X7_31_6 hko rfl dX7_read_33 ?_
    refine xr_if_ne (tgt := 42) X dX7_read_36 (by decide) (fun _ => ?_) (fun c_36 => absurd c_36 (nI_ne0 (Nat.pos_of_ne_zero (hnz (by omega))) (by omega)))
    refine xr_aload_n X 2 dX7_read_42 rfl rfl ?_
    refine xr_callV X hko rfl kw_328 kw_330 kw_4 cw_X7_readPerson [] (c_X7_rp_k hko hbt hB ht hL hq hpf hn6 hw h6 hk) rfl rfl rfl rfl rfl rfl rfl dX7_read_43 ?_
    refine xr_istore_n (lv' := [(1, .int 0), (2, .int (nI n)), (0, .ref (e + 13))]) X dX7_read_46 rfl rfl rfl ?_
    refine xr_iinc (v := nI (n + 1)) (lv' := [(2, .int (nI (n + 1))), (1, .int 0), (0, .ref (e + 13))]) X 1 dX7_read_47 rfl (nI_1 _) rfl rfl ?_
    refine xr_goto (tgt := 18) X dX7_read_50 (by decide) ?_
    refine xr_iload_n X 0 dX7_read_18 rfl rfl ?_
    refine xr_bipush (v := 6) X dX7_read_19 (by decide) ?_
    refine xr_icmp_gt (tgt := 53) X dX7_read_21 (by decide) (fun c_21 => ?_) (fun c_21 => ?_)
    · have c_21 := i32_lt.mp c_21
      (try simp (disch := omega) only [nI_toInt, i32_add, i32_sub, i32_mul, i64_addl, i32_l, k32_1, k32_6, k64_1, k64_6] at c_21)
      refine xr_aload_n X 2 dX7_read_53 rfl rfl ?_
      refine xr_iconst (v := 0) X dX7_read_54 (by decide) ?_
      refine xr_put (fs' := [.ref (e + 14), .int 0, .ref (e + 15), .int (nI n), .int (1), .int (nI (tK t L (tE t L q))), .int (nI (tS t L (tE t L q))), .int (nI (tE t L (tE t L q)))]) X (fW_X7_15_6 _) (xu_s _ _ _) rfl rfl rfl rfl dX7_read_55 ?_
      refine xr_heap (h' := (xu h (e + 13) (.inr (6, [.ref (e + 14), .int 0, .ref (e + 15), .int (nI n), .int (1), .int (nI (tK t L (tE t L q))), .int (nI (tS t L (tE t L q))), .int (nI (tE t L (tE t L q)))])))) (xu_uu _ _ _ _) ?_
      refine xr_iload_n X 1 dX7_read_58 rfl rfl ?_
      refine xr_if_eq (tgt := 66) X dX7_read_59 (by decide) (fun _ => ?_) (fun c_59 => absurd rfl c_59)
      refine xr_aload_n X 2 dX7_read_66 rfl rfl ?_
      refine xr_get X fF_X7_34_6 (xu_s _ _ _) rfl dX7_read_67 ?_
      exact xr_iret X rfl rfl rfl rfl rfl rfl dX7_read_70
    · have c_21 := mt i32_lt.mpr c_21
      (try simp (disch := omega) only [nI_toInt, i32_add, i32_sub, i32_mul, i64_addl, i32_l, k32_1, k32_6, k64_1, k64_6] at c_21)
      refine xr_iload_n X 1 dX7_read_24 rfl rfl ?_
      refine xr_if_eq (tgt := 53) X dX7_read_25 (by decide) (fun _ => ?_) (fun c_25 => absurd rfl c_25)
      refine xr_aload_n X 2 dX7_read_53 rfl rfl ?_
      refine xr_iconst (v := 0) X dX7_read_54 (by decide) ?_
      refine xr_put (fs' := [.ref (e + 14), .int 0, .ref (e + 15), .int (nI n), .int (1), .int (nI (tK t L (tE t L q))), .int (nI (tS t L (tE t L q))), .int (nI (tE t L (tE t L q)))]) X (fW_X7_15_6 _) (xu_s _ _ _) rfl rfl rfl rfl dX7_read_55 ?_
      refine xr_heap (h' := (xu h (e + 13) (.inr (6, [.ref (e + 14), .int 0, .ref (e + 15), .int (nI n), .int (1), .int (nI (tK t L (tE t L q))), .int (nI (tS t L (tE t L q))), .int (nI (tE t L (tE t L q)))])))) (xu_uu _ _ _ _) ?_
      refine xr_iload_n X 1 dX7_read_58 rfl rfl ?_
      refine xr_if_eq (tgt := 66) X dX7_read_59 (by decide) (fun _ => ?_) (fun c_59 => absurd rfl c_59)
      refine xr_aload_n X 2 dX7_read_66 rfl rfl ?_
      refine xr_get X fF_X7_34_6 (xu_s _ _ _) rfl dX7_read_67 ?_
      exact xr_iret X rfl rfl rfl rfl rfl rfl dX7_read_70
set_option maxRecDepth 100000 in
theorem l_X7_rd_w1 {Γ : xΓ} {Ω : xW} {h : xH} {sz : Nat} (X : xX Γ Ω cX7_read 3 RX7 "read" (some .int) 7 245 7 21) {e : Nat} {fa : Int32} {bt : Nat → Int32} {t : Nat → Nat} {L q n : Nat} {pf : Nat → Option Nat} (hko : h (e + 13) = some (kO e (nI L) (nI n) fa (nI (tK t L q)) (nI (tS t L q)) (nI (tE t L q)))) (hbt : h (e + 14) = some (.inl (.byte, 300, .inl bt))) (hB : ∀ q, q < L → bt q = sb (t q)) (ht : ∀ q, q < L → t q < 256) (hL : L ≤ 300) (hq : q ≤ L) (hpf : h (e + 15) = some (.inl (.object "EvePost$Person", 6, .inr (.inr (.inr (.inr pf)))))) (hn6 : n ≤ 6) (hnz : 0 < n → ¬ tK t L q = 0) (hw : wdP t L q wl_person = true) (h6 : n < 6) (hk : ¬ kiW t L (tE t L q) = 0) (h2 : ¬ tK t L (tE t L (tE t L q)) = 2) : xG Γ Ω 3 (xQ Γ Ω (some (.int (nI (tS t L (tE t L (tE t L q)))))) (xu h (e + 13) (.inr (6, [.ref (e + 14), .int (0), .ref (e + 15), .int (nI n), .int (1), .int (nI (tK t L (tE t L (tE t L q)))), .int (nI (tS t L (tE t L (tE t L q)))), .int (nI (tE t L (tE t L (tE t L q))))]))) (sz) 7 21) 18 [(2, .int (nI n)), (1, .int 1), (0, .ref (e + 13))] ([]) h sz 6 18 := by
  have r1 : (tE t L q) ≤ L := (tE_rng hq).2
  have r2 : (tE t L (tE t L q)) ≤ L := (tE_rng r1).2
  have r3 : (tE t L (tE t L (tE t L q))) ≤ L := (tE_rng r2).2
  have r4 : (tE t L (tE t L (tE t L (tE t L q)))) ≤ L := (tE_rng r3).2
  have n2 := nuv_lt t L (tE t L (tE t L q)) r2
  have n3 := nuv_lt t L (tE t L (tE t L (tE t L q))) r3
  have kw1 := kiW_le t L (tE t L q)
  have tk4 := tK_le t L (tE t L (tE t L (tE t L (tE t L q))))
  have r5 : (tE t L (tE t L (tE t L (tE t L (tE t L q))))) ≤ L := (tE_rng r4).2
  have tkq := tK_le t L q
  refine xr_iload_n X 0 dX7_read_18 rfl rfl ?_
  refine xr_bipush (v := 6) X dX7_read_19 (by decide) ?_
  refine xr_icmp_gt (tgt := 53) X dX7_read_21 (by decide) (fun c_21 => absurd c_21 (by rw [i32_lt, k32_6, nI_toInt (by omega)]; omega)) (fun _ => ?_)
  refine xr_iload_n X 1 dX7_read_24 rfl rfl ?_
  refine xr_if_eq (tgt := 53) X dX7_read_25 (by decide) (fun c_25 => absurd c_25 (by decide)) (fun _ => ?_)
  refine xr_iload_n X 0 dX7_read_28 rfl rfl ?_
  refine xr_if_le (tgt := 42) X dX7_read_29 (by decide) (fun c_29 => ?_) (fun c_29 => ?_)
  · have c_29 := i32_le.mp c_29
    (try simp (disch := omega) only [nI_toInt, i32_add, i32_sub, i32_mul, i64_addl, i32_l, k32_0, k64_0] at c_29)
    refine xr_aload_n X 2 dX7_read_42 rfl rfl ?_
    refine xr_callV X hko rfl kw_328 kw_330 kw_4 cw_X7_readPerson [] (c_X7_rp_w1 hko hbt hB ht hL hq hpf hn6 hw h6 hk h2) rfl rfl rfl rfl rfl rfl rfl dX7_read_43 ?_
    refine xr_istore_n (lv' := [(1, .int 0), (2, .int (nI n)), (0, .ref (e + 13))]) X dX7_read_46 rfl rfl rfl ?_
    refine xr_iinc (v := nI (n + 1)) (lv' := [(2, .int (nI (n + 1))), (1, .int 0), (0, .ref (e + 13))]) X 1 dX7_read_47 rfl (nI_1 _) rfl rfl ?_
    refine xr_goto (tgt := 18) X dX7_read_50 (by decide) ?_
    refine xr_iload_n X 0 dX7_read_18 rfl rfl ?_
    refine xr_bipush (v := 6) X dX7_read_19 (by decide) ?_
    refine xr_icmp_gt (tgt := 53) X dX7_read_21 (by decide) (fun c_21 => ?_) (fun c_21 => ?_)
    · have c_21 := i32_lt.mp c_21
      (try simp (disch := omega) only [nI_toInt, i32_add, i32_sub, i32_mul, i64_addl, i32_l, k32_1, k32_6, k64_1, k64_6] at c_21)
      refine xr_aload_n X 2 dX7_read_53 rfl rfl ?_
      refine xr_iconst (v := 0) X dX7_read_54 (by decide) ?_
      refine xr_put (fs' := [.ref (e + 14), .int 0, .ref (e + 15), .int (nI n), .int (1), .int (nI (tK t L (tE t L (tE t L q)))), .int (nI (tS t L (tE t L (tE t L q)))), .int (nI (tE t L (tE t L (tE t L q))))]) X (fW_X7_15_6 _) (xu_s _ _ _) rfl rfl rfl rfl dX7_read_55 ?_
      refine xr_heap (h' := (xu h (e + 13) (.inr (6, [.ref (e + 14), .int 0, .ref (e + 15), .int (nI n), .int (1), .int (nI (tK t L (tE t L (tE t L q)))), .int (nI (tS t L (tE t L (tE t L q)))), .int (nI (tE t L (tE t L (tE t L q))))])))) (xu_uu _ _ _ _) ?_
      refine xr_iload_n X 1 dX7_read_58 rfl rfl ?_
      refine xr_if_eq (tgt := 66) X dX7_read_59 (by decide) (fun _ => ?_) (fun c_59 => absurd rfl c_59)
      refine xr_aload_n X 2 dX7_read_66 rfl rfl ?_
      refine xr_get X fF_X7_34_6 (xu_s _ _ _) rfl dX7_read_67 ?_
      exact xr_iret X rfl rfl rfl rfl rfl rfl dX7_read_70
    · have c_21 := mt i32_lt.mpr c_21
      (try simp (disch := omega) only [nI_toInt, i32_add, i32_sub, i32_mul, i64_addl, i32_l, k32_1, k32_6, k64_1, k64_6] at c_21)
      refine xr_iload_n X 1 dX7_read_24 rfl rfl ?_
      refine xr_if_eq (tgt := 53) X dX7_read_25 (by decide) (fun _ => ?_) (fun c_25 => absurd rfl c_25)
      refine xr_aload_n X 2 dX7_read_53 rfl rfl ?_
      refine xr_iconst (v := 0) X dX7_read_54 (by decide) ?_
      refine xr_put (fs' := [.ref (e + 14), .int 0, .ref (e + 15), .int (nI n), .int (1), .int (nI (tK t L (tE t L (tE t L q)))), .int (nI (tS t L (tE t L (tE t L q)))), .int (nI (tE t L (tE t L (tE t L q))))]) X (fW_X7_15_6 _) (xu_s _ _ _) rfl rfl rfl rfl dX7_read_55 ?_
      refine xr_heap (h' := (xu h (e + 13) (.inr (6, [.ref (e + 14), .int 0, .ref (e + 15), .int (nI n), .int (1), .int (nI (tK t L (tE t L (tE t L q)))), .int (nI (tS t L (tE t L (tE t L q)))), .int (nI (tE t L (tE t L (tE t L q))))])))) (xu_uu _ _ _ _) ?_
      refine xr_iload_n X 1 dX7_read_58 rfl rfl ?_
      refine xr_if_eq (tgt := 66) X dX7_read_59 (by decide) (fun _ => ?_) (fun c_59 => absurd rfl c_59)
      refine xr_aload_n X 2 dX7_read_66 rfl rfl ?_
      refine xr_get X fF_X7_34_6 (xu_s _ _ _) rfl dX7_read_67 ?_
      exact xr_iret X rfl rfl rfl rfl rfl rfl dX7_read_70
  · have c_29 := mt i32_le.mpr c_29
    (try simp (disch := omega) only [nI_toInt, i32_add, i32_sub, i32_mul, i64_addl, i32_l, k32_0, k64_0] at c_29)
    refine xr_aload_n X 2 dX7_read_32 rfl rfl ?_
    refine xr_get X fF_X7_31_6 hko rfl dX7_read_33 ?_
    refine xr_if_ne (tgt := 42) X dX7_read_36 (by decide) (fun _ => ?_) (fun c_36 => absurd c_36 (nI_ne0 (Nat.pos_of_ne_zero (hnz (by omega))) (by omega)))
    refine xr_aload_n X 2 dX7_read_42 rfl rfl ?_
    refine xr_callV X hko rfl kw_328 kw_330 kw_4 cw_X7_readPerson [] (c_X7_rp_w1 hko hbt hB ht hL hq hpf hn6 hw h6 hk h2) rfl rfl rfl rfl rfl rfl rfl dX7_read_43 ?_
    refine xr_istore_n (lv' := [(1, .int 0), (2, .int (nI n)), (0, .ref (e + 13))]) X dX7_read_46 rfl rfl rfl ?_
    refine xr_iinc (v := nI (n + 1)) (lv' := [(2, .int (nI (n + 1))), (1, .int 0), (0, .ref (e + 13))]) X 1 dX7_read_47 rfl (nI_1 _) rfl rfl ?_
    refine xr_goto (tgt := 18) X dX7_read_50 (by decide) ?_
    refine xr_iload_n X 0 dX7_read_18 rfl rfl ?_
    refine xr_bipush (v := 6) X dX7_read_19 (by decide) ?_
    refine xr_icmp_gt (tgt := 53) X dX7_read_21 (by decide) (fun c_21 => ?_) (fun c_21 => ?_)
    · have c_21 := i32_lt.mp c_21
      (try simp (disch := omega) only [nI_toInt, i32_add, i32_sub, i32_mul, i64_addl, i32_l, k32_1, k32_6, k64_1, k64_6] at c_21)
      refine xr_aload_n X 2 dX7_read_53 rfl rfl ?_
      refine xr_iconst (v := 0) X dX7_read_54 (by decide) ?_
      refine xr_put (fs' := [.ref (e + 14), .int 0, .ref (e + 15), .int (nI n), .int (1), .int (nI (tK t L (tE t L (tE t L q)))), .int (nI (tS t L (tE t L (tE t L q)))), .int (nI (tE t L (tE t L (tE t L q))))]) X (fW_X7_15_6 _) (xu_s _ _ _) rfl rfl rfl rfl dX7_read_55 ?_
      refine xr_heap (h' := (xu h (e + 13) (.inr (6, [.ref (e + 14), .int 0, .ref (e + 15), .int (nI n), .int (1), .int (nI (tK t L (tE t L (tE t L q)))), .int (nI (tS t L (tE t L (tE t L q)))), .int (nI (tE t L (tE t L (tE t L q))))])))) (xu_uu _ _ _ _) ?_
      refine xr_iload_n X 1 dX7_read_58 rfl rfl ?_
      refine xr_if_eq (tgt := 66) X dX7_read_59 (by decide) (fun _ => ?_) (fun c_59 => absurd rfl c_59)
      refine xr_aload_n X 2 dX7_read_66 rfl rfl ?_
      refine xr_get X fF_X7_34_6 (xu_s _ _ _) rfl dX7_read_67 ?_
      exact xr_iret X rfl rfl rfl rfl rfl rfl dX7_read_70
    · have c_21 := mt i32_lt.mpr c_21
      (try simp (disch := omega) only [nI_toInt, i32_add, i32_sub, i32_mul, i64_addl, i32_l, k32_1, k32_6, k64_1, k64_6] at c_21)
      refine xr_iload_n X 1 dX7_read_24 rfl rfl ?_
      refine xr_if_eq (tgt := 53) X dX7_read_25 (by decide) (fun _ => ?_) (fun c_25 => absurd rfl c_25)
      refine xr_aload_n X 2 dX7_read_53 rfl rfl ?_
      refine xr_iconst (v := 0) X dX7_read_54 (by decide) ?_
      refine xr_put (fs' := [.ref (e + 14), .int 0, .ref (e + 15), .int (nI n), .int (1), .int (nI (tK t L (tE t L (tE t L q)))), .int (nI (tS t L (tE t L (tE t L q)))), .int (nI (tE t L (tE t L (tE t L q))))]) X (fW_X7_15_6 _) (xu_s _ _ _) rfl rfl rfl rfl dX7_read_55 ?_
      refine xr_heap (h' := (xu h (e + 13) (.inr (6, [.ref (e + 14), .int 0, .ref (e + 15), .int (nI n), .int (1), .int (nI (tK t L (tE t L (tE t L q)))), .int (nI (tS t L (tE t L (tE t L q)))), .int (nI (tE t L (tE t L (tE t L q))))])))) (xu_uu _ _ _ _) ?_
      refine xr_iload_n X 1 dX7_read_58 rfl rfl ?_
      refine xr_if_eq (tgt := 66) X dX7_read_59 (by decide) (fun _ => ?_) (fun c_59 => absurd rfl c_59)
      refine xr_aload_n X 2 dX7_read_66 rfl rfl ?_
      refine xr_get X fF_X7_34_6 (xu_s _ _ _) rfl dX7_read_67 ?_
      exact xr_iret X rfl rfl rfl rfl rfl rfl dX7_read_70
set_option maxRecDepth 100000 in
theorem l_X7_rd_w2 {Γ : xΓ} {Ω : xW} {h : xH} {sz : Nat} (X : xX Γ Ω cX7_read 3 RX7 "read" (some .int) 7 245 7 21) {e : Nat} {fa : Int32} {bt : Nat → Int32} {t : Nat → Nat} {L q n : Nat} {pf : Nat → Option Nat} (hko : h (e + 13) = some (kO e (nI L) (nI n) fa (nI (tK t L q)) (nI (tS t L q)) (nI (tE t L q)))) (hbt : h (e + 14) = some (.inl (.byte, 300, .inl bt))) (hB : ∀ q, q < L → bt q = sb (t q)) (ht : ∀ q, q < L → t q < 256) (hL : L ≤ 300) (hq : q ≤ L) (hpf : h (e + 15) = some (.inl (.object "EvePost$Person", 6, .inr (.inr (.inr (.inr pf)))))) (hn6 : n ≤ 6) (hnz : 0 < n → ¬ tK t L q = 0) (hw : wdP t L q wl_person = true) (h6 : n < 6) (hk : ¬ kiW t L (tE t L q) = 0) (h2 : tK t L (tE t L (tE t L q)) = 2) (hv : 5 < nuv t L (tE t L (tE t L q))) : xG Γ Ω 3 (xQ Γ Ω (some (.int (nI (tS t L (tE t L (tE t L q)))))) (xu h (e + 13) (.inr (6, [.ref (e + 14), .int (0), .ref (e + 15), .int (nI n), .int (2), .int (nI (tK t L (tE t L (tE t L q)))), .int (nI (tS t L (tE t L (tE t L q)))), .int (nI (tE t L (tE t L (tE t L q))))]))) (sz) 7 21) 18 [(2, .int (nI n)), (1, .int 1), (0, .ref (e + 13))] ([]) h sz 6 18 := by
  have r1 : (tE t L q) ≤ L := (tE_rng hq).2
  have r2 : (tE t L (tE t L q)) ≤ L := (tE_rng r1).2
  have r3 : (tE t L (tE t L (tE t L q))) ≤ L := (tE_rng r2).2
  have r4 : (tE t L (tE t L (tE t L (tE t L q)))) ≤ L := (tE_rng r3).2
  have n2 := nuv_lt t L (tE t L (tE t L q)) r2
  have n3 := nuv_lt t L (tE t L (tE t L (tE t L q))) r3
  have kw1 := kiW_le t L (tE t L q)
  have tk4 := tK_le t L (tE t L (tE t L (tE t L (tE t L q))))
  have r5 : (tE t L (tE t L (tE t L (tE t L (tE t L q))))) ≤ L := (tE_rng r4).2
  have tkq := tK_le t L q
  refine xr_iload_n X 0 dX7_read_18 rfl rfl ?_
  refine xr_bipush (v := 6) X dX7_read_19 (by decide) ?_
  refine xr_icmp_gt (tgt := 53) X dX7_read_21 (by decide) (fun c_21 => absurd c_21 (by rw [i32_lt, k32_6, nI_toInt (by omega)]; omega)) (fun _ => ?_)
  refine xr_iload_n X 1 dX7_read_24 rfl rfl ?_
  refine xr_if_eq (tgt := 53) X dX7_read_25 (by decide) (fun c_25 => absurd c_25 (by decide)) (fun _ => ?_)
  refine xr_iload_n X 0 dX7_read_28 rfl rfl ?_
  refine xr_if_le (tgt := 42) X dX7_read_29 (by decide) (fun c_29 => ?_) (fun c_29 => ?_)
  · have c_29 := i32_le.mp c_29
    (try simp (disch := omega) only [nI_toInt, i32_add, i32_sub, i32_mul, i64_addl, i32_l, k32_0, k64_0] at c_29)
    refine xr_aload_n X 2 dX7_read_42 rfl rfl ?_
    refine xr_callV X hko rfl kw_328 kw_330 kw_4 cw_X7_readPerson [] (c_X7_rp_w2 hko hbt hB ht hL hq hpf hn6 hw h6 hk h2 hv) rfl rfl rfl rfl rfl rfl rfl dX7_read_43 ?_
    refine xr_istore_n (lv' := [(1, .int 0), (2, .int (nI n)), (0, .ref (e + 13))]) X dX7_read_46 rfl rfl rfl ?_
    refine xr_iinc (v := nI (n + 1)) (lv' := [(2, .int (nI (n + 1))), (1, .int 0), (0, .ref (e + 13))]) X 1 dX7_read_47 rfl (nI_1 _) rfl rfl ?_
    refine xr_goto (tgt := 18) X dX7_read_50 (by decide) ?_
    refine xr_iload_n X 0 dX7_read_18 rfl rfl ?_
    refine xr_bipush (v := 6) X dX7_read_19 (by decide) ?_
    refine xr_icmp_gt (tgt := 53) X dX7_read_21 (by decide) (fun c_21 => ?_) (fun c_21 => ?_)
    · have c_21 := i32_lt.mp c_21
      (try simp (disch := omega) only [nI_toInt, i32_add, i32_sub, i32_mul, i64_addl, i32_l, k32_1, k32_6, k64_1, k64_6] at c_21)
      refine xr_aload_n X 2 dX7_read_53 rfl rfl ?_
      refine xr_iconst (v := 0) X dX7_read_54 (by decide) ?_
      refine xr_put (fs' := [.ref (e + 14), .int 0, .ref (e + 15), .int (nI n), .int (2), .int (nI (tK t L (tE t L (tE t L q)))), .int (nI (tS t L (tE t L (tE t L q)))), .int (nI (tE t L (tE t L (tE t L q))))]) X (fW_X7_15_6 _) (xu_s _ _ _) rfl rfl rfl rfl dX7_read_55 ?_
      refine xr_heap (h' := (xu h (e + 13) (.inr (6, [.ref (e + 14), .int 0, .ref (e + 15), .int (nI n), .int (2), .int (nI (tK t L (tE t L (tE t L q)))), .int (nI (tS t L (tE t L (tE t L q)))), .int (nI (tE t L (tE t L (tE t L q))))])))) (xu_uu _ _ _ _) ?_
      refine xr_iload_n X 1 dX7_read_58 rfl rfl ?_
      refine xr_if_eq (tgt := 66) X dX7_read_59 (by decide) (fun _ => ?_) (fun c_59 => absurd rfl c_59)
      refine xr_aload_n X 2 dX7_read_66 rfl rfl ?_
      refine xr_get X fF_X7_34_6 (xu_s _ _ _) rfl dX7_read_67 ?_
      exact xr_iret X rfl rfl rfl rfl rfl rfl dX7_read_70
    · have c_21 := mt i32_lt.mpr c_21
      (try simp (disch := omega) only [nI_toInt, i32_add, i32_sub, i32_mul, i64_addl, i32_l, k32_1, k32_6, k64_1, k64_6] at c_21)
      refine xr_iload_n X 1 dX7_read_24 rfl rfl ?_
      refine xr_if_eq (tgt := 53) X dX7_read_25 (by decide) (fun _ => ?_) (fun c_25 => absurd rfl c_25)
      refine xr_aload_n X 2 dX7_read_53 rfl rfl ?_
      refine xr_iconst (v := 0) X dX7_read_54 (by decide) ?_
      refine xr_put (fs' := [.ref (e + 14), .int 0, .ref (e + 15), .int (nI n), .int (2), .int (nI (tK t L (tE t L (tE t L q)))), .int (nI (tS t L (tE t L (tE t L q)))), .int (nI (tE t L (tE t L (tE t L q))))]) X (fW_X7_15_6 _) (xu_s _ _ _) rfl rfl rfl rfl dX7_read_55 ?_
      refine xr_heap (h' := (xu h (e + 13) (.inr (6, [.ref (e + 14), .int 0, .ref (e + 15), .int (nI n), .int (2), .int (nI (tK t L (tE t L (tE t L q)))), .int (nI (tS t L (tE t L (tE t L q)))), .int (nI (tE t L (tE t L (tE t L q))))])))) (xu_uu _ _ _ _) ?_
      refine xr_iload_n X 1 dX7_read_58 rfl rfl ?_
      refine xr_if_eq (tgt := 66) X dX7_read_59 (by decide) (fun _ => ?_) (fun c_59 => absurd rfl c_59)
      refine xr_aload_n X 2 dX7_read_66 rfl rfl ?_
      refine xr_get X fF_X7_34_6 (xu_s _ _ _) rfl dX7_read_67 ?_
      exact xr_iret X rfl rfl rfl rfl rfl rfl dX7_read_70
  · have c_29 := mt i32_le.mpr c_29
    (try simp (disch := omega) only [nI_toInt, i32_add, i32_sub, i32_mul, i64_addl, i32_l, k32_0, k64_0] at c_29)
    refine xr_aload_n X 2 dX7_read_32 rfl rfl ?_
    refine xr_get X fF_X7_31_6 hko rfl dX7_read_33 ?_
    refine xr_if_ne (tgt := 42) X dX7_read_36 (by decide) (fun _ => ?_) (fun c_36 => absurd c_36 (nI_ne0 (Nat.pos_of_ne_zero (hnz (by omega))) (by omega)))
    refine xr_aload_n X 2 dX7_read_42 rfl rfl ?_
    refine xr_callV X hko rfl kw_328 kw_330 kw_4 cw_X7_readPerson [] (c_X7_rp_w2 hko hbt hB ht hL hq hpf hn6 hw h6 hk h2 hv) rfl rfl rfl rfl rfl rfl rfl dX7_read_43 ?_
    refine xr_istore_n (lv' := [(1, .int 0), (2, .int (nI n)), (0, .ref (e + 13))]) X dX7_read_46 rfl rfl rfl ?_
    refine xr_iinc (v := nI (n + 1)) (lv' := [(2, .int (nI (n + 1))), (1, .int 0), (0, .ref (e + 13))]) X 1 dX7_read_47 rfl (nI_1 _) rfl rfl ?_
    refine xr_goto (tgt := 18) X dX7_read_50 (by decide) ?_
    refine xr_iload_n X 0 dX7_read_18 rfl rfl ?_
    refine xr_bipush (v := 6) X dX7_read_19 (by decide) ?_
    refine xr_icmp_gt (tgt := 53) X dX7_read_21 (by decide) (fun c_21 => ?_) (fun c_21 => ?_)
    · have c_21 := i32_lt.mp c_21
      (try simp (disch := omega) only [nI_toInt, i32_add, i32_sub, i32_mul, i64_addl, i32_l, k32_1, k32_6, k64_1, k64_6] at c_21)
      refine xr_aload_n X 2 dX7_read_53 rfl rfl ?_
      refine xr_iconst (v := 0) X dX7_read_54 (by decide) ?_
      refine xr_put (fs' := [.ref (e + 14), .int 0, .ref (e + 15), .int (nI n), .int (2), .int (nI (tK t L (tE t L (tE t L q)))), .int (nI (tS t L (tE t L (tE t L q)))), .int (nI (tE t L (tE t L (tE t L q))))]) X (fW_X7_15_6 _) (xu_s _ _ _) rfl rfl rfl rfl dX7_read_55 ?_
      refine xr_heap (h' := (xu h (e + 13) (.inr (6, [.ref (e + 14), .int 0, .ref (e + 15), .int (nI n), .int (2), .int (nI (tK t L (tE t L (tE t L q)))), .int (nI (tS t L (tE t L (tE t L q)))), .int (nI (tE t L (tE t L (tE t L q))))])))) (xu_uu _ _ _ _) ?_
      refine xr_iload_n X 1 dX7_read_58 rfl rfl ?_
      refine xr_if_eq (tgt := 66) X dX7_read_59 (by decide) (fun _ => ?_) (fun c_59 => absurd rfl c_59)
      refine xr_aload_n X 2 dX7_read_66 rfl rfl ?_
      refine xr_get X fF_X7_34_6 (xu_s _ _ _) rfl dX7_read_67 ?_
      exact xr_iret X rfl rfl rfl rfl rfl rfl dX7_read_70
    · have c_21 := mt i32_lt.mpr c_21
      (try simp (disch := omega) only [nI_toInt, i32_add, i32_sub, i32_mul, i64_addl, i32_l, k32_1, k32_6, k64_1, k64_6] at c_21)
      refine xr_iload_n X 1 dX7_read_24 rfl rfl ?_
      refine xr_if_eq (tgt := 53) X dX7_read_25 (by decide) (fun _ => ?_) (fun c_25 => absurd rfl c_25)
      refine xr_aload_n X 2 dX7_read_53 rfl rfl ?_
      refine xr_iconst (v := 0) X dX7_read_54 (by decide) ?_
      refine xr_put (fs' := [.ref (e + 14), .int 0, .ref (e + 15), .int (nI n), .int (2), .int (nI (tK t L (tE t L (tE t L q)))), .int (nI (tS t L (tE t L (tE t L q)))), .int (nI (tE t L (tE t L (tE t L q))))]) X (fW_X7_15_6 _) (xu_s _ _ _) rfl rfl rfl rfl dX7_read_55 ?_
      refine xr_heap (h' := (xu h (e + 13) (.inr (6, [.ref (e + 14), .int 0, .ref (e + 15), .int (nI n), .int (2), .int (nI (tK t L (tE t L (tE t L q)))), .int (nI (tS t L (tE t L (tE t L q)))), .int (nI (tE t L (tE t L (tE t L q))))])))) (xu_uu _ _ _ _) ?_
      refine xr_iload_n X 1 dX7_read_58 rfl rfl ?_
      refine xr_if_eq (tgt := 66) X dX7_read_59 (by decide) (fun _ => ?_) (fun c_59 => absurd rfl c_59)
      refine xr_aload_n X 2 dX7_read_66 rfl rfl ?_
      refine xr_get X fF_X7_34_6 (xu_s _ _ _) rfl dX7_read_67 ?_
      exact xr_iret X rfl rfl rfl rfl rfl rfl dX7_read_70
set_option maxRecDepth 100000 in
theorem l_X7_rd_m1 {Γ : xΓ} {Ω : xW} {h : xH} {sz : Nat} (X : xX Γ Ω cX7_read 3 RX7 "read" (some .int) 7 245 7 21) {e : Nat} {fa : Int32} {bt : Nat → Int32} {t : Nat → Nat} {L q n : Nat} {pf : Nat → Option Nat} (hko : h (e + 13) = some (kO e (nI L) (nI n) fa (nI (tK t L q)) (nI (tS t L q)) (nI (tE t L q)))) (hbt : h (e + 14) = some (.inl (.byte, 300, .inl bt))) (hB : ∀ q, q < L → bt q = sb (t q)) (ht : ∀ q, q < L → t q < 256) (hL : L ≤ 300) (hq : q ≤ L) (hpf : h (e + 15) = some (.inl (.object "EvePost$Person", 6, .inr (.inr (.inr (.inr pf)))))) (hn6 : n ≤ 6) (hnz : 0 < n → ¬ tK t L q = 0) (hw : wdP t L q wl_person = true) (h6 : n < 6) (hk : ¬ kiW t L (tE t L q) = 0) (h2 : tK t L (tE t L (tE t L q)) = 2) (hv : nuv t L (tE t L (tE t L q)) ≤ 5) (h3 : ¬ tK t L (tE t L (tE t L (tE t L q))) = 2) : xG Γ Ω 3 (xQ Γ Ω (some (.int (nI (tS t L (tE t L (tE t L (tE t L q))))))) (xu h (e + 13) (.inr (6, [.ref (e + 14), .int (0), .ref (e + 15), .int (nI n), .int (1), .int (nI (tK t L (tE t L (tE t L (tE t L q))))), .int (nI (tS t L (tE t L (tE t L (tE t L q))))), .int (nI (tE t L (tE t L (tE t L (tE t L q)))))]))) (sz) 7 21) 18 [(2, .int (nI n)), (1, .int 1), (0, .ref (e + 13))] ([]) h sz 6 18 := by
  have r1 : (tE t L q) ≤ L := (tE_rng hq).2
  have r2 : (tE t L (tE t L q)) ≤ L := (tE_rng r1).2
  have r3 : (tE t L (tE t L (tE t L q))) ≤ L := (tE_rng r2).2
  have r4 : (tE t L (tE t L (tE t L (tE t L q)))) ≤ L := (tE_rng r3).2
  have n2 := nuv_lt t L (tE t L (tE t L q)) r2
  have n3 := nuv_lt t L (tE t L (tE t L (tE t L q))) r3
  have kw1 := kiW_le t L (tE t L q)
  have tk4 := tK_le t L (tE t L (tE t L (tE t L (tE t L q))))
  have r5 : (tE t L (tE t L (tE t L (tE t L (tE t L q))))) ≤ L := (tE_rng r4).2
  have tkq := tK_le t L q
  refine xr_iload_n X 0 dX7_read_18 rfl rfl ?_
  refine xr_bipush (v := 6) X dX7_read_19 (by decide) ?_
  refine xr_icmp_gt (tgt := 53) X dX7_read_21 (by decide) (fun c_21 => absurd c_21 (by rw [i32_lt, k32_6, nI_toInt (by omega)]; omega)) (fun _ => ?_)
  refine xr_iload_n X 1 dX7_read_24 rfl rfl ?_
  refine xr_if_eq (tgt := 53) X dX7_read_25 (by decide) (fun c_25 => absurd c_25 (by decide)) (fun _ => ?_)
  refine xr_iload_n X 0 dX7_read_28 rfl rfl ?_
  refine xr_if_le (tgt := 42) X dX7_read_29 (by decide) (fun c_29 => ?_) (fun c_29 => ?_)
  · have c_29 := i32_le.mp c_29
    (try simp (disch := omega) only [nI_toInt, i32_add, i32_sub, i32_mul, i64_addl, i32_l, k32_0, k64_0] at c_29)
    refine xr_aload_n X 2 dX7_read_42 rfl rfl ?_
    refine xr_callV X hko rfl kw_328 kw_330 kw_4 cw_X7_readPerson [] (c_X7_rp_m1 hko hbt hB ht hL hq hpf hn6 hw h6 hk h2 hv h3) rfl rfl rfl rfl rfl rfl rfl dX7_read_43 ?_
    refine xr_istore_n (lv' := [(1, .int 0), (2, .int (nI n)), (0, .ref (e + 13))]) X dX7_read_46 rfl rfl rfl ?_
    refine xr_iinc (v := nI (n + 1)) (lv' := [(2, .int (nI (n + 1))), (1, .int 0), (0, .ref (e + 13))]) X 1 dX7_read_47 rfl (nI_1 _) rfl rfl ?_
    refine xr_goto (tgt := 18) X dX7_read_50 (by decide) ?_
    refine xr_iload_n X 0 dX7_read_18 rfl rfl ?_
    refine xr_bipush (v := 6) X dX7_read_19 (by decide) ?_
    refine xr_icmp_gt (tgt := 53) X dX7_read_21 (by decide) (fun c_21 => ?_) (fun c_21 => ?_)
    · have c_21 := i32_lt.mp c_21
      (try simp (disch := omega) only [nI_toInt, i32_add, i32_sub, i32_mul, i64_addl, i32_l, k32_1, k32_6, k64_1, k64_6] at c_21)
      refine xr_aload_n X 2 dX7_read_53 rfl rfl ?_
      refine xr_iconst (v := 0) X dX7_read_54 (by decide) ?_
      refine xr_put (fs' := [.ref (e + 14), .int 0, .ref (e + 15), .int (nI n), .int (1), .int (nI (tK t L (tE t L (tE t L (tE t L q))))), .int (nI (tS t L (tE t L (tE t L (tE t L q))))), .int (nI (tE t L (tE t L (tE t L (tE t L q)))))]) X (fW_X7_15_6 _) (xu_s _ _ _) rfl rfl rfl rfl dX7_read_55 ?_
      refine xr_heap (h' := (xu h (e + 13) (.inr (6, [.ref (e + 14), .int 0, .ref (e + 15), .int (nI n), .int (1), .int (nI (tK t L (tE t L (tE t L (tE t L q))))), .int (nI (tS t L (tE t L (tE t L (tE t L q))))), .int (nI (tE t L (tE t L (tE t L (tE t L q)))))])))) (xu_uu _ _ _ _) ?_
      refine xr_iload_n X 1 dX7_read_58 rfl rfl ?_
      refine xr_if_eq (tgt := 66) X dX7_read_59 (by decide) (fun _ => ?_) (fun c_59 => absurd rfl c_59)
      refine xr_aload_n X 2 dX7_read_66 rfl rfl ?_
      refine xr_get X fF_X7_34_6 (xu_s _ _ _) rfl dX7_read_67 ?_
      exact xr_iret X rfl rfl rfl rfl rfl rfl dX7_read_70
    · have c_21 := mt i32_lt.mpr c_21
      (try simp (disch := omega) only [nI_toInt, i32_add, i32_sub, i32_mul, i64_addl, i32_l, k32_1, k32_6, k64_1, k64_6] at c_21)
      refine xr_iload_n X 1 dX7_read_24 rfl rfl ?_
      refine xr_if_eq (tgt := 53) X dX7_read_25 (by decide) (fun _ => ?_) (fun c_25 => absurd rfl c_25)
      refine xr_aload_n X 2 dX7_read_53 rfl rfl ?_
      refine xr_iconst (v := 0) X dX7_read_54 (by decide) ?_
      refine xr_put (fs' := [.ref (e + 14), .int 0, .ref (e + 15), .int (nI n), .int (1), .int (nI (tK t L (tE t L (tE t L (tE t L q))))), .int (nI (tS t L (tE t L (tE t L (tE t L q))))), .int (nI (tE t L (tE t L (tE t L (tE t L q)))))]) X (fW_X7_15_6 _) (xu_s _ _ _) rfl rfl rfl rfl dX7_read_55 ?_
      refine xr_heap (h' := (xu h (e + 13) (.inr (6, [.ref (e + 14), .int 0, .ref (e + 15), .int (nI n), .int (1), .int (nI (tK t L (tE t L (tE t L (tE t L q))))), .int (nI (tS t L (tE t L (tE t L (tE t L q))))), .int (nI (tE t L (tE t L (tE t L (tE t L q)))))])))) (xu_uu _ _ _ _) ?_
      refine xr_iload_n X 1 dX7_read_58 rfl rfl ?_
      refine xr_if_eq (tgt := 66) X dX7_read_59 (by decide) (fun _ => ?_) (fun c_59 => absurd rfl c_59)
      refine xr_aload_n X 2 dX7_read_66 rfl rfl ?_
      refine xr_get X fF_X7_34_6 (xu_s _ _ _) rfl dX7_read_67 ?_
      exact xr_iret X rfl rfl rfl rfl rfl rfl dX7_read_70
  · have c_29 := mt i32_le.mpr c_29
    (try simp (disch := omega) only [nI_toInt, i32_add, i32_sub, i32_mul, i64_addl, i32_l, k32_0, k64_0] at c_29)
    refine xr_aload_n X 2 dX7_read_32 rfl rfl ?_
    refine xr_get X fF_X7_31_6 hko rfl dX7_read_33 ?_
    refine xr_if_ne (tgt := 42) X dX7_read_36 (by decide) (fun _ => ?_) (fun c_36 => absurd c_36 (nI_ne0 (Nat.pos_of_ne_zero (hnz (by omega))) (by omega)))
    refine xr_aload_n X 2 dX7_read_42 rfl rfl ?_
    refine xr_callV X hko rfl kw_328 kw_330 kw_4 cw_X7_readPerson [] (c_X7_rp_m1 hko hbt hB ht hL hq hpf hn6 hw h6 hk h2 hv h3) rfl rfl rfl rfl rfl rfl rfl dX7_read_43 ?_
    refine xr_istore_n (lv' := [(1, .int 0), (2, .int (nI n)), (0, .ref (e + 13))]) X dX7_read_46 rfl rfl rfl ?_
    refine xr_iinc (v := nI (n + 1)) (lv' := [(2, .int (nI (n + 1))), (1, .int 0), (0, .ref (e + 13))]) X 1 dX7_read_47 rfl (nI_1 _) rfl rfl ?_
    refine xr_goto (tgt := 18) X dX7_read_50 (by decide) ?_
    refine xr_iload_n X 0 dX7_read_18 rfl rfl ?_
    refine xr_bipush (v := 6) X dX7_read_19 (by decide) ?_
    refine xr_icmp_gt (tgt := 53) X dX7_read_21 (by decide) (fun c_21 => ?_) (fun c_21 => ?_)
    · have c_21 := i32_lt.mp c_21
      (try simp (disch := omega) only [nI_toInt, i32_add, i32_sub, i32_mul, i64_addl, i32_l, k32_1, k32_6, k64_1, k64_6] at c_21)
      refine xr_aload_n X 2 dX7_read_53 rfl rfl ?_
      refine xr_iconst (v := 0) X dX7_read_54 (by decide) ?_
      refine xr_put (fs' := [.ref (e + 14), .int 0, .ref (e + 15), .int (nI n), .int (1), .int (nI (tK t L (tE t L (tE t L (tE t L q))))), .int (nI (tS t L (tE t L (tE t L (tE t L q))))), .int (nI (tE t L (tE t L (tE t L (tE t L q)))))]) X (fW_X7_15_6 _) (xu_s _ _ _) rfl rfl rfl rfl dX7_read_55 ?_
      refine xr_heap (h' := (xu h (e + 13) (.inr (6, [.ref (e + 14), .int 0, .ref (e + 15), .int (nI n), .int (1), .int (nI (tK t L (tE t L (tE t L (tE t L q))))), .int (nI (tS t L (tE t L (tE t L (tE t L q))))), .int (nI (tE t L (tE t L (tE t L (tE t L q)))))])))) (xu_uu _ _ _ _) ?_
      refine xr_iload_n X 1 dX7_read_58 rfl rfl ?_
      refine xr_if_eq (tgt := 66) X dX7_read_59 (by decide) (fun _ => ?_) (fun c_59 => absurd rfl c_59)
      refine xr_aload_n X 2 dX7_read_66 rfl rfl ?_
      refine xr_get X fF_X7_34_6 (xu_s _ _ _) rfl dX7_read_67 ?_
      exact xr_iret X rfl rfl rfl rfl rfl rfl dX7_read_70
    · have c_21 := mt i32_lt.mpr c_21
      (try simp (disch := omega) only [nI_toInt, i32_add, i32_sub, i32_mul, i64_addl, i32_l, k32_1, k32_6, k64_1, k64_6] at c_21)
      refine xr_iload_n X 1 dX7_read_24 rfl rfl ?_
      refine xr_if_eq (tgt := 53) X dX7_read_25 (by decide) (fun _ => ?_) (fun c_25 => absurd rfl c_25)
      refine xr_aload_n X 2 dX7_read_53 rfl rfl ?_
      refine xr_iconst (v := 0) X dX7_read_54 (by decide) ?_
      refine xr_put (fs' := [.ref (e + 14), .int 0, .ref (e + 15), .int (nI n), .int (1), .int (nI (tK t L (tE t L (tE t L (tE t L q))))), .int (nI (tS t L (tE t L (tE t L (tE t L q))))), .int (nI (tE t L (tE t L (tE t L (tE t L q)))))]) X (fW_X7_15_6 _) (xu_s _ _ _) rfl rfl rfl rfl dX7_read_55 ?_
      refine xr_heap (h' := (xu h (e + 13) (.inr (6, [.ref (e + 14), .int 0, .ref (e + 15), .int (nI n), .int (1), .int (nI (tK t L (tE t L (tE t L (tE t L q))))), .int (nI (tS t L (tE t L (tE t L (tE t L q))))), .int (nI (tE t L (tE t L (tE t L (tE t L q)))))])))) (xu_uu _ _ _ _) ?_
      refine xr_iload_n X 1 dX7_read_58 rfl rfl ?_
      refine xr_if_eq (tgt := 66) X dX7_read_59 (by decide) (fun _ => ?_) (fun c_59 => absurd rfl c_59)
      refine xr_aload_n X 2 dX7_read_66 rfl rfl ?_
      refine xr_get X fF_X7_34_6 (xu_s _ _ _) rfl dX7_read_67 ?_
      exact xr_iret X rfl rfl rfl rfl rfl rfl dX7_read_70
set_option maxRecDepth 100000 in
theorem l_X7_rd_m2 {Γ : xΓ} {Ω : xW} {h : xH} {sz : Nat} (X : xX Γ Ω cX7_read 3 RX7 "read" (some .int) 7 245 7 21) {e : Nat} {fa : Int32} {bt : Nat → Int32} {t : Nat → Nat} {L q n : Nat} {pf : Nat → Option Nat} (hko : h (e + 13) = some (kO e (nI L) (nI n) fa (nI (tK t L q)) (nI (tS t L q)) (nI (tE t L q)))) (hbt : h (e + 14) = some (.inl (.byte, 300, .inl bt))) (hB : ∀ q, q < L → bt q = sb (t q)) (ht : ∀ q, q < L → t q < 256) (hL : L ≤ 300) (hq : q ≤ L) (hpf : h (e + 15) = some (.inl (.object "EvePost$Person", 6, .inr (.inr (.inr (.inr pf)))))) (hn6 : n ≤ 6) (hnz : 0 < n → ¬ tK t L q = 0) (hw : wdP t L q wl_person = true) (h6 : n < 6) (hk : ¬ kiW t L (tE t L q) = 0) (h2 : tK t L (tE t L (tE t L q)) = 2) (hv : nuv t L (tE t L (tE t L q)) ≤ 5) (h3 : tK t L (tE t L (tE t L (tE t L q))) = 2) (hu : 9 < nuv t L (tE t L (tE t L (tE t L q)))) : xG Γ Ω 3 (xQ Γ Ω (some (.int (nI (tS t L (tE t L (tE t L (tE t L q))))))) (xu h (e + 13) (.inr (6, [.ref (e + 14), .int (0), .ref (e + 15), .int (nI n), .int (2), .int (nI (tK t L (tE t L (tE t L (tE t L q))))), .int (nI (tS t L (tE t L (tE t L (tE t L q))))), .int (nI (tE t L (tE t L (tE t L (tE t L q)))))]))) (sz) 7 21) 18 [(2, .int (nI n)), (1, .int 1), (0, .ref (e + 13))] ([]) h sz 6 18 := by
  have r1 : (tE t L q) ≤ L := (tE_rng hq).2
  have r2 : (tE t L (tE t L q)) ≤ L := (tE_rng r1).2
  have r3 : (tE t L (tE t L (tE t L q))) ≤ L := (tE_rng r2).2
  have r4 : (tE t L (tE t L (tE t L (tE t L q)))) ≤ L := (tE_rng r3).2
  have n2 := nuv_lt t L (tE t L (tE t L q)) r2
  have n3 := nuv_lt t L (tE t L (tE t L (tE t L q))) r3
  have kw1 := kiW_le t L (tE t L q)
  have tk4 := tK_le t L (tE t L (tE t L (tE t L (tE t L q))))
  have r5 : (tE t L (tE t L (tE t L (tE t L (tE t L q))))) ≤ L := (tE_rng r4).2
  have tkq := tK_le t L q
  refine xr_iload_n X 0 dX7_read_18 rfl rfl ?_
  refine xr_bipush (v := 6) X dX7_read_19 (by decide) ?_
  refine xr_icmp_gt (tgt := 53) X dX7_read_21 (by decide) (fun c_21 => absurd c_21 (by rw [i32_lt, k32_6, nI_toInt (by omega)]; omega)) (fun _ => ?_)
  refine xr_iload_n X 1 dX7_read_24 rfl rfl ?_
  refine xr_if_eq (tgt := 53) X dX7_read_25 (by decide) (fun c_25 => absurd c_25 (by decide)) (fun _ => ?_)
  refine xr_iload_n X 0 dX7_read_28 rfl rfl ?_
  refine xr_if_le (tgt := 42) X dX7_read_29 (by decide) (fun c_29 => ?_) (fun c_29 => ?_)
  · have c_29 := i32_le.mp c_29
    (try simp (disch := omega) only [nI_toInt, i32_add, i32_sub, i32_mul, i64_addl, i32_l, k32_0, k64_0] at c_29)
    refine xr_aload_n X 2 dX7_read_42 rfl rfl ?_
    refine xr_callV X hko rfl kw_328 kw_330 kw_4 cw_X7_readPerson [] (c_X7_rp_m2 hko hbt hB ht hL hq hpf hn6 hw h6 hk h2 hv h3 hu) rfl rfl rfl rfl rfl rfl rfl dX7_read_43 ?_
    refine xr_istore_n (lv' := [(1, .int 0), (2, .int (nI n)), (0, .ref (e + 13))]) X dX7_read_46 rfl rfl rfl ?_
    refine xr_iinc (v := nI (n + 1)) (lv' := [(2, .int (nI (n + 1))), (1, .int 0), (0, .ref (e + 13))]) X 1 dX7_read_47 rfl (nI_1 _) rfl rfl ?_
    refine xr_goto (tgt := 18) X dX7_read_50 (by decide) ?_
    refine xr_iload_n X 0 dX7_read_18 rfl rfl ?_
    refine xr_bipush (v := 6) X dX7_read_19 (by decide) ?_
    refine xr_icmp_gt (tgt := 53) X dX7_read_21 (by decide) (fun c_21 => ?_) (fun c_21 => ?_)
    · have c_21 := i32_lt.mp c_21
      (try simp (disch := omega) only [nI_toInt, i32_add, i32_sub, i32_mul, i64_addl, i32_l, k32_1, k32_6, k64_1, k64_6] at c_21)
      refine xr_aload_n X 2 dX7_read_53 rfl rfl ?_
      refine xr_iconst (v := 0) X dX7_read_54 (by decide) ?_
      refine xr_put (fs' := [.ref (e + 14), .int 0, .ref (e + 15), .int (nI n), .int (2), .int (nI (tK t L (tE t L (tE t L (tE t L q))))), .int (nI (tS t L (tE t L (tE t L (tE t L q))))), .int (nI (tE t L (tE t L (tE t L (tE t L q)))))]) X (fW_X7_15_6 _) (xu_s _ _ _) rfl rfl rfl rfl dX7_read_55 ?_
      refine xr_heap (h' := (xu h (e + 13) (.inr (6, [.ref (e + 14), .int 0, .ref (e + 15), .int (nI n), .int (2), .int (nI (tK t L (tE t L (tE t L (tE t L q))))), .int (nI (tS t L (tE t L (tE t L (tE t L q))))), .int (nI (tE t L (tE t L (tE t L (tE t L q)))))])))) (xu_uu _ _ _ _) ?_
      refine xr_iload_n X 1 dX7_read_58 rfl rfl ?_
      refine xr_if_eq (tgt := 66) X dX7_read_59 (by decide) (fun _ => ?_) (fun c_59 => absurd rfl c_59)
      refine xr_aload_n X 2 dX7_read_66 rfl rfl ?_
      refine xr_get X fF_X7_34_6 (xu_s _ _ _) rfl dX7_read_67 ?_
      exact xr_iret X rfl rfl rfl rfl rfl rfl dX7_read_70
    · have c_21 := mt i32_lt.mpr c_21
      (try simp (disch := omega) only [nI_toInt, i32_add, i32_sub, i32_mul, i64_addl, i32_l, k32_1, k32_6, k64_1, k64_6] at c_21)
      refine xr_iload_n X 1 dX7_read_24 rfl rfl ?_
      refine xr_if_eq (tgt := 53) X dX7_read_25 (by decide) (fun _ => ?_) (fun c_25 => absurd rfl c_25)
      refine xr_aload_n X 2 dX7_read_53 rfl rfl ?_
      refine xr_iconst (v := 0) X dX7_read_54 (by decide) ?_
      refine xr_put (fs' := [.ref (e + 14), .int 0, .ref (e + 15), .int (nI n), .int (2), .int (nI (tK t L (tE t L (tE t L (tE t L q))))), .int (nI (tS t L (tE t L (tE t L (tE t L q))))), .int (nI (tE t L (tE t L (tE t L (tE t L q)))))]) X (fW_X7_15_6 _) (xu_s _ _ _) rfl rfl rfl rfl dX7_read_55 ?_
      refine xr_heap (h' := (xu h (e + 13) (.inr (6, [.ref (e + 14), .int 0, .ref (e + 15), .int (nI n), .int (2), .int (nI (tK t L (tE t L (tE t L (tE t L q))))), .int (nI (tS t L (tE t L (tE t L (tE t L q))))), .int (nI (tE t L (tE t L (tE t L (tE t L q)))))])))) (xu_uu _ _ _ _) ?_
      refine xr_iload_n X 1 dX7_read_58 rfl rfl ?_
      refine xr_if_eq (tgt := 66) X dX7_read_59 (by decide) (fun _ => ?_) (fun c_59 => absurd rfl c_59)
      refine xr_aload_n X 2 dX7_read_66 rfl rfl ?_
      refine xr_get X fF_X7_34_6 (xu_s _ _ _) rfl dX7_read_67 ?_
      exact xr_iret X rfl rfl rfl rfl rfl rfl dX7_read_70
  · have c_29 := mt i32_le.mpr c_29
    (try simp (disch := omega) only [nI_toInt, i32_add, i32_sub, i32_mul, i64_addl, i32_l, k32_0, k64_0] at c_29)
    refine xr_aload_n X 2 dX7_read_32 rfl rfl ?_
    refine xr_get X fF_X7_31_6 hko rfl dX7_read_33 ?_
    refine xr_if_ne (tgt := 42) X dX7_read_36 (by decide) (fun _ => ?_) (fun c_36 => absurd c_36 (nI_ne0 (Nat.pos_of_ne_zero (hnz (by omega))) (by omega)))
    refine xr_aload_n X 2 dX7_read_42 rfl rfl ?_
    refine xr_callV X hko rfl kw_328 kw_330 kw_4 cw_X7_readPerson [] (c_X7_rp_m2 hko hbt hB ht hL hq hpf hn6 hw h6 hk h2 hv h3 hu) rfl rfl rfl rfl rfl rfl rfl dX7_read_43 ?_
    refine xr_istore_n (lv' := [(1, .int 0), (2, .int (nI n)), (0, .ref (e + 13))]) X dX7_read_46 rfl rfl rfl ?_
    refine xr_iinc (v := nI (n + 1)) (lv' := [(2, .int (nI (n + 1))), (1, .int 0), (0, .ref (e + 13))]) X 1 dX7_read_47 rfl (nI_1 _) rfl rfl ?_
    refine xr_goto (tgt := 18) X dX7_read_50 (by decide) ?_
    refine xr_iload_n X 0 dX7_read_18 rfl rfl ?_
    refine xr_bipush (v := 6) X dX7_read_19 (by decide) ?_
    refine xr_icmp_gt (tgt := 53) X dX7_read_21 (by decide) (fun c_21 => ?_) (fun c_21 => ?_)
    · have c_21 := i32_lt.mp c_21
      (try simp (disch := omega) only [nI_toInt, i32_add, i32_sub, i32_mul, i64_addl, i32_l, k32_1, k32_6, k64_1, k64_6] at c_21)
      refine xr_aload_n X 2 dX7_read_53 rfl rfl ?_
      refine xr_iconst (v := 0) X dX7_read_54 (by decide) ?_
      refine xr_put (fs' := [.ref (e + 14), .int 0, .ref (e + 15), .int (nI n), .int (2), .int (nI (tK t L (tE t L (tE t L (tE t L q))))), .int (nI (tS t L (tE t L (tE t L (tE t L q))))), .int (nI (tE t L (tE t L (tE t L (tE t L q)))))]) X (fW_X7_15_6 _) (xu_s _ _ _) rfl rfl rfl rfl dX7_read_55 ?_
      refine xr_heap (h' := (xu h (e + 13) (.inr (6, [.ref (e + 14), .int 0, .ref (e + 15), .int (nI n), .int (2), .int (nI (tK t L (tE t L (tE t L (tE t L q))))), .int (nI (tS t L (tE t L (tE t L (tE t L q))))), .int (nI (tE t L (tE t L (tE t L (tE t L q)))))])))) (xu_uu _ _ _ _) ?_
      refine xr_iload_n X 1 dX7_read_58 rfl rfl ?_
      refine xr_if_eq (tgt := 66) X dX7_read_59 (by decide) (fun _ => ?_) (fun c_59 => absurd rfl c_59)
      refine xr_aload_n X 2 dX7_read_66 rfl rfl ?_
      refine xr_get X fF_X7_34_6 (xu_s _ _ _) rfl dX7_read_67 ?_
      exact xr_iret X rfl rfl rfl rfl rfl rfl dX7_read_70
    · have c_21 := mt i32_lt.mpr c_21
      (try simp (disch := omega) only [nI_toInt, i32_add, i32_sub, i32_mul, i64_addl, i32_l, k32_1, k32_6, k64_1, k64_6] at c_21)
      refine xr_iload_n X 1 dX7_read_24 rfl rfl ?_
      refine xr_if_eq (tgt := 53) X dX7_read_25 (by decide) (fun _ => ?_) (fun c_25 => absurd rfl c_25)
      refine xr_aload_n X 2 dX7_read_53 rfl rfl ?_
      refine xr_iconst (v := 0) X dX7_read_54 (by decide) ?_
      refine xr_put (fs' := [.ref (e + 14), .int 0, .ref (e + 15), .int (nI n), .int (2), .int (nI (tK t L (tE t L (tE t L (tE t L q))))), .int (nI (tS t L (tE t L (tE t L (tE t L q))))), .int (nI (tE t L (tE t L (tE t L (tE t L q)))))]) X (fW_X7_15_6 _) (xu_s _ _ _) rfl rfl rfl rfl dX7_read_55 ?_
      refine xr_heap (h' := (xu h (e + 13) (.inr (6, [.ref (e + 14), .int 0, .ref (e + 15), .int (nI n), .int (2), .int (nI (tK t L (tE t L (tE t L (tE t L q))))), .int (nI (tS t L (tE t L (tE t L (tE t L q))))), .int (nI (tE t L (tE t L (tE t L (tE t L q)))))])))) (xu_uu _ _ _ _) ?_
      refine xr_iload_n X 1 dX7_read_58 rfl rfl ?_
      refine xr_if_eq (tgt := 66) X dX7_read_59 (by decide) (fun _ => ?_) (fun c_59 => absurd rfl c_59)
      refine xr_aload_n X 2 dX7_read_66 rfl rfl ?_
      refine xr_get X fF_X7_34_6 (xu_s _ _ _) rfl dX7_read_67 ?_
      exact xr_iret X rfl rfl rfl rfl rfl rfl dX7_read_70
set_option maxRecDepth 100000 in
theorem l_X7_rd_s {Γ : xΓ} {Ω : xW} {h : xH} {sz : Nat} (X : xX Γ Ω cX7_read 3 RX7 "read" (some .int) 7 245 7 21) {e : Nat} {fa : Int32} {bt : Nat → Int32} {t : Nat → Nat} {L q n : Nat} {pf : Nat → Option Nat} (hko : h (e + 13) = some (kO e (nI L) (nI n) fa (nI (tK t L q)) (nI (tS t L q)) (nI (tE t L q)))) (hbt : h (e + 14) = some (.inl (.byte, 300, .inl bt))) (hB : ∀ q, q < L → bt q = sb (t q)) (ht : ∀ q, q < L → t q < 256) (hL : L ≤ 300) (hq : q ≤ L) (hpf : h (e + 15) = some (.inl (.object "EvePost$Person", 6, .inr (.inr (.inr (.inr pf)))))) (hn6 : n ≤ 6) (hnz : 0 < n → ¬ tK t L q = 0) (hw : wdP t L q wl_person = true) (h6 : n < 6) (hk : ¬ kiW t L (tE t L q) = 0) (h2 : tK t L (tE t L (tE t L q)) = 2) (hv : nuv t L (tE t L (tE t L q)) ≤ 5) (h3 : tK t L (tE t L (tE t L (tE t L q))) = 2) (hu : nuv t L (tE t L (tE t L (tE t L q))) ≤ 9) (h4 : ¬ tK t L (tE t L (tE t L (tE t L (tE t L q)))) = 3) : xG Γ Ω 3 (xQ Γ Ω (some (.int (nI (tS t L (tE t L (tE t L (tE t L (tE t L q)))))))) (xu h (e + 13) (.inr (6, [.ref (e + 14), .int (0), .ref (e + 15), .int (nI n), .int (1), .int (nI (tK t L (tE t L (tE t L (tE t L (tE t L q)))))), .int (nI (tS t L (tE t L (tE t L (tE t L (tE t L q)))))), .int (nI (tE t L (tE t L (tE t L (tE t L (tE t L q))))))]))) (sz) 7 21) 18 [(2, .int (nI n)), (1, .int 1), (0, .ref (e + 13))] ([]) h sz 6 18 := by
  have r1 : (tE t L q) ≤ L := (tE_rng hq).2
  have r2 : (tE t L (tE t L q)) ≤ L := (tE_rng r1).2
  have r3 : (tE t L (tE t L (tE t L q))) ≤ L := (tE_rng r2).2
  have r4 : (tE t L (tE t L (tE t L (tE t L q)))) ≤ L := (tE_rng r3).2
  have n2 := nuv_lt t L (tE t L (tE t L q)) r2
  have n3 := nuv_lt t L (tE t L (tE t L (tE t L q))) r3
  have kw1 := kiW_le t L (tE t L q)
  have tk4 := tK_le t L (tE t L (tE t L (tE t L (tE t L q))))
  have r5 : (tE t L (tE t L (tE t L (tE t L (tE t L q))))) ≤ L := (tE_rng r4).2
  have tkq := tK_le t L q
  refine xr_iload_n X 0 dX7_read_18 rfl rfl ?_
  refine xr_bipush (v := 6) X dX7_read_19 (by decide) ?_
  refine xr_icmp_gt (tgt := 53) X dX7_read_21 (by decide) (fun c_21 => absurd c_21 (by rw [i32_lt, k32_6, nI_toInt (by omega)]; omega)) (fun _ => ?_)
  refine xr_iload_n X 1 dX7_read_24 rfl rfl ?_
  refine xr_if_eq (tgt := 53) X dX7_read_25 (by decide) (fun c_25 => absurd c_25 (by decide)) (fun _ => ?_)
  refine xr_iload_n X 0 dX7_read_28 rfl rfl ?_
  refine xr_if_le (tgt := 42) X dX7_read_29 (by decide) (fun c_29 => ?_) (fun c_29 => ?_)
  · have c_29 := i32_le.mp c_29
    (try simp (disch := omega) only [nI_toInt, i32_add, i32_sub, i32_mul, i64_addl, i32_l, k32_0, k64_0] at c_29)
    refine xr_aload_n X 2 dX7_read_42 rfl rfl ?_
    refine xr_callV X hko rfl kw_328 kw_330 kw_4 cw_X7_readPerson [] (c_X7_rp_s hko hbt hB ht hL hq hpf hn6 hw h6 hk h2 hv h3 hu h4) rfl rfl rfl rfl rfl rfl rfl dX7_read_43 ?_
    refine xr_istore_n (lv' := [(1, .int 0), (2, .int (nI n)), (0, .ref (e + 13))]) X dX7_read_46 rfl rfl rfl ?_
    refine xr_iinc (v := nI (n + 1)) (lv' := [(2, .int (nI (n + 1))), (1, .int 0), (0, .ref (e + 13))]) X 1 dX7_read_47 rfl (nI_1 _) rfl rfl ?_
    refine xr_goto (tgt := 18) X dX7_read_50 (by decide) ?_
    refine xr_iload_n X 0 dX7_read_18 rfl rfl ?_
    refine xr_bipush (v := 6) X dX7_read_19 (by decide) ?_
    refine xr_icmp_gt (tgt := 53) X dX7_read_21 (by decide) (fun c_21 => ?_) (fun c_21 => ?_)
    · have c_21 := i32_lt.mp c_21
      (try simp (disch := omega) only [nI_toInt, i32_add, i32_sub, i32_mul, i64_addl, i32_l, k32_1, k32_6, k64_1, k64_6] at c_21)
      refine xr_aload_n X 2 dX7_read_53 rfl rfl ?_
      refine xr_iconst (v := 0) X dX7_read_54 (by decide) ?_
      refine xr_put (fs' := [.ref (e + 14), .int 0, .ref (e + 15), .int (nI n), .int (1), .int (nI (tK t L (tE t L (tE t L (tE t L (tE t L q)))))), .int (nI (tS t L (tE t L (tE t L (tE t L (tE t L q)))))), .int (nI (tE t L (tE t L (tE t L (tE t L (tE t L q))))))]) X (fW_X7_15_6 _) (xu_s _ _ _) rfl rfl rfl rfl dX7_read_55 ?_
      refine xr_heap (h' := (xu h (e + 13) (.inr (6, [.ref (e + 14), .int 0, .ref (e + 15), .int (nI n), .int (1), .int (nI (tK t L (tE t L (tE t L (tE t L (tE t L q)))))), .int (nI (tS t L (tE t L (tE t L (tE t L (tE t L q)))))), .int (nI (tE t L (tE t L (tE t L (tE t L (tE t L q))))))])))) (xu_uu _ _ _ _) ?_
      refine xr_iload_n X 1 dX7_read_58 rfl rfl ?_
      refine xr_if_eq (tgt := 66) X dX7_read_59 (by decide) (fun _ => ?_) (fun c_59 => absurd rfl c_59)
      refine xr_aload_n X 2 dX7_read_66 rfl rfl ?_
      refine xr_get X fF_X7_34_6 (xu_s _ _ _) rfl dX7_read_67 ?_
      exact xr_iret X rfl rfl rfl rfl rfl rfl dX7_read_70
    · have c_21 := mt i32_lt.mpr c_21
      (try simp (disch := omega) only [nI_toInt, i32_add, i32_sub, i32_mul, i64_addl, i32_l, k32_1, k32_6, k64_1, k64_6] at c_21)
      refine xr_iload_n X 1 dX7_read_24 rfl rfl ?_
      refine xr_if_eq (tgt := 53) X dX7_read_25 (by decide) (fun _ => ?_) (fun c_25 => absurd rfl c_25)
      refine xr_aload_n X 2 dX7_read_53 rfl rfl ?_
      refine xr_iconst (v := 0) X dX7_read_54 (by decide) ?_
      refine xr_put (fs' := [.ref (e + 14), .int 0, .ref (e + 15), .int (nI n), .int (1), .int (nI (tK t L (tE t L (tE t L (tE t L (tE t L q)))))), .int (nI (tS t L (tE t L (tE t L (tE t L (tE t L q)))))), .int (nI (tE t L (tE t L (tE t L (tE t L (tE t L q))))))]) X (fW_X7_15_6 _) (xu_s _ _ _) rfl rfl rfl rfl dX7_read_55 ?_
      refine xr_heap (h' := (xu h (e + 13) (.inr (6, [.ref (e + 14), .int 0, .ref (e + 15), .int (nI n), .int (1), .int (nI (tK t L (tE t L (tE t L (tE t L (tE t L q)))))), .int (nI (tS t L (tE t L (tE t L (tE t L (tE t L q)))))), .int (nI (tE t L (tE t L (tE t L (tE t L (tE t L q))))))])))) (xu_uu _ _ _ _) ?_
      refine xr_iload_n X 1 dX7_read_58 rfl rfl ?_
      refine xr_if_eq (tgt := 66) X dX7_read_59 (by decide) (fun _ => ?_) (fun c_59 => absurd rfl c_59)
      refine xr_aload_n X 2 dX7_read_66 rfl rfl ?_
      refine xr_get X fF_X7_34_6 (xu_s _ _ _) rfl dX7_read_67 ?_
      exact xr_iret X rfl rfl rfl rfl rfl rfl dX7_read_70
  · have c_29 := mt i32_le.mpr c_29
    (try simp (disch := omega) only [nI_toInt, i32_add, i32_sub, i32_mul, i64_addl, i32_l, k32_0, k64_0] at c_29)
    refine xr_aload_n X 2 dX7_read_32 rfl rfl ?_
    refine xr_get X fF_X7_31_6 hko rfl dX7_read_33 ?_
    refine xr_if_ne (tgt := 42) X dX7_read_36 (by decide) (fun _ => ?_) (fun c_36 => absurd c_36 (nI_ne0 (Nat.pos_of_ne_zero (hnz (by omega))) (by omega)))
    refine xr_aload_n X 2 dX7_read_42 rfl rfl ?_
    refine xr_callV X hko rfl kw_328 kw_330 kw_4 cw_X7_readPerson [] (c_X7_rp_s hko hbt hB ht hL hq hpf hn6 hw h6 hk h2 hv h3 hu h4) rfl rfl rfl rfl rfl rfl rfl dX7_read_43 ?_
    refine xr_istore_n (lv' := [(1, .int 0), (2, .int (nI n)), (0, .ref (e + 13))]) X dX7_read_46 rfl rfl rfl ?_
    refine xr_iinc (v := nI (n + 1)) (lv' := [(2, .int (nI (n + 1))), (1, .int 0), (0, .ref (e + 13))]) X 1 dX7_read_47 rfl (nI_1 _) rfl rfl ?_
    refine xr_goto (tgt := 18) X dX7_read_50 (by decide) ?_
    refine xr_iload_n X 0 dX7_read_18 rfl rfl ?_
    refine xr_bipush (v := 6) X dX7_read_19 (by decide) ?_
    refine xr_icmp_gt (tgt := 53) X dX7_read_21 (by decide) (fun c_21 => ?_) (fun c_21 => ?_)
    · have c_21 := i32_lt.mp c_21
      (try simp (disch := omega) only [nI_toInt, i32_add, i32_sub, i32_mul, i64_addl, i32_l, k32_1, k32_6, k64_1, k64_6] at c_21)
      refine xr_aload_n X 2 dX7_read_53 rfl rfl ?_
      refine xr_iconst (v := 0) X dX7_read_54 (by decide) ?_
      refine xr_put (fs' := [.ref (e + 14), .int 0, .ref (e + 15), .int (nI n), .int (1), .int (nI (tK t L (tE t L (tE t L (tE t L (tE t L q)))))), .int (nI (tS t L (tE t L (tE t L (tE t L (tE t L q)))))), .int (nI (tE t L (tE t L (tE t L (tE t L (tE t L q))))))]) X (fW_X7_15_6 _) (xu_s _ _ _) rfl rfl rfl rfl dX7_read_55 ?_
      refine xr_heap (h' := (xu h (e + 13) (.inr (6, [.ref (e + 14), .int 0, .ref (e + 15), .int (nI n), .int (1), .int (nI (tK t L (tE t L (tE t L (tE t L (tE t L q)))))), .int (nI (tS t L (tE t L (tE t L (tE t L (tE t L q)))))), .int (nI (tE t L (tE t L (tE t L (tE t L (tE t L q))))))])))) (xu_uu _ _ _ _) ?_
      refine xr_iload_n X 1 dX7_read_58 rfl rfl ?_
      refine xr_if_eq (tgt := 66) X dX7_read_59 (by decide) (fun _ => ?_) (fun c_59 => absurd rfl c_59)
      refine xr_aload_n X 2 dX7_read_66 rfl rfl ?_
      refine xr_get X fF_X7_34_6 (xu_s _ _ _) rfl dX7_read_67 ?_
      exact xr_iret X rfl rfl rfl rfl rfl rfl dX7_read_70
    · have c_21 := mt i32_lt.mpr c_21
      (try simp (disch := omega) only [nI_toInt, i32_add, i32_sub, i32_mul, i64_addl, i32_l, k32_1, k32_6, k64_1, k64_6] at c_21)
      refine xr_iload_n X 1 dX7_read_24 rfl rfl ?_
      refine xr_if_eq (tgt := 53) X dX7_read_25 (by decide) (fun _ => ?_) (fun c_25 => absurd rfl c_25)
      refine xr_aload_n X 2 dX7_read_53 rfl rfl ?_
      refine xr_iconst (v := 0) X dX7_read_54 (by decide) ?_
      refine xr_put (fs' := [.ref (e + 14), .int 0, .ref (e + 15), .int (nI n), .int (1), .int (nI (tK t L (tE t L (tE t L (tE t L (tE t L q)))))), .int (nI (tS t L (tE t L (tE t L (tE t L (tE t L q)))))), .int (nI (tE t L (tE t L (tE t L (tE t L (tE t L q))))))]) X (fW_X7_15_6 _) (xu_s _ _ _) rfl rfl rfl rfl dX7_read_55 ?_
      refine xr_heap (h' := (xu h (e + 13) (.inr (6, [.ref (e + 14), .int 0, .ref (e + 15), .int (nI n), .int (1), .int (nI (tK t L (tE t L (tE t L (tE t L (tE t L q)))))), .int (nI (tS t L (tE t L (tE t L (tE t L (tE t L q)))))), .int (nI (tE t L (tE t L (tE t L (tE t L (tE t L q))))))])))) (xu_uu _ _ _ _) ?_
      refine xr_iload_n X 1 dX7_read_58 rfl rfl ?_
      refine xr_if_eq (tgt := 66) X dX7_read_59 (by decide) (fun _ => ?_) (fun c_59 => absurd rfl c_59)
      refine xr_aload_n X 2 dX7_read_66 rfl rfl ?_
      refine xr_get X fF_X7_34_6 (xu_s _ _ _) rfl dX7_read_67 ?_
      exact xr_iret X rfl rfl rfl rfl rfl rfl dX7_read_70
set_option maxRecDepth 100000 in
theorem l_X7_rd_ok {Γ : xΓ} {Ω : xW} {h : xH} {sz : Nat} (X : xX Γ Ω cX7_read 3 RX7 "read" (some .int) 7 245 7 21) {e : Nat} {fa : Int32} {bt : Nat → Int32} {t : Nat → Nat} {L q n : Nat} {pf : Nat → Option Nat} {Q : State → Prop} (hko : h (e + 13) = some (kO e (nI L) (nI n) fa (nI (tK t L q)) (nI (tS t L q)) (nI (tE t L q)))) (hbt : h (e + 14) = some (.inl (.byte, 300, .inl bt))) (hB : ∀ q, q < L → bt q = sb (t q)) (ht : ∀ q, q < L → t q < 256) (hL : L ≤ 300) (hq : q ≤ L) (hpf : h (e + 15) = some (.inl (.object "EvePost$Person", 6, .inr (.inr (.inr (.inr pf)))))) (hn6 : n ≤ 6) (hnz : 0 < n → ¬ tK t L q = 0) (hw : wdP t L q wl_person = true) (h6 : n < 6) (hk : ¬ kiW t L (tE t L q) = 0) (h2 : tK t L (tE t L (tE t L q)) = 2) (hv : nuv t L (tE t L (tE t L q)) ≤ 5) (h3 : tK t L (tE t L (tE t L (tE t L q))) = 2) (hu : nuv t L (tE t L (tE t L (tE t L q))) ≤ 9) (h4 : tK t L (tE t L (tE t L (tE t L (tE t L q)))) = 3) (hsz : e + 16 ≤ sz) (K : xG Γ Ω 3 Q 18 [(2, .int (nI (n + 1))), (1, .int 1), (0, .ref (e + 13))] [] (xu (xu (xu h (e + 13) (.inr (6, [.ref (e + 14), .int (nI L), .ref (e + 15), .int (nI (n + 1)), .int (fa), .int (nI (tK t L (tE t L (tE t L (tE t L (tE t L (tE t L q))))))), .int (nI (tS t L (tE t L (tE t L (tE t L (tE t L (tE t L q))))))), .int (nI (tE t L (tE t L (tE t L (tE t L (tE t L (tE t L q)))))))]))) sz (.inr (pCi (kiW t L (tE t L q)), [.int (nI n), .int (nI (nuv t L (tE t L (tE t L q)))), .int (nI (nuv t L (tE t L (tE t L (tE t L q)))))]))) (e + 15) (.inl (.object "EvePost$Person", 6, .inr (.inr (.inr (.inr (va_up pf n (some sz)))))))) (sz + 1) (n + 1) (3 * n + 3)) : xG Γ Ω 3 (Q) 18 [(2, .int (nI n)), (1, .int 1), (0, .ref (e + 13))] ([]) h sz n (3 * n) := by
  have r1 : (tE t L q) ≤ L := (tE_rng hq).2
  have r2 : (tE t L (tE t L q)) ≤ L := (tE_rng r1).2
  have r3 : (tE t L (tE t L (tE t L q))) ≤ L := (tE_rng r2).2
  have r4 : (tE t L (tE t L (tE t L (tE t L q)))) ≤ L := (tE_rng r3).2
  have n2 := nuv_lt t L (tE t L (tE t L q)) r2
  have n3 := nuv_lt t L (tE t L (tE t L (tE t L q))) r3
  have kw1 := kiW_le t L (tE t L q)
  have tk4 := tK_le t L (tE t L (tE t L (tE t L (tE t L q))))
  have r5 : (tE t L (tE t L (tE t L (tE t L (tE t L q))))) ≤ L := (tE_rng r4).2
  have tkq := tK_le t L q
  refine xr_iload_n X 0 dX7_read_18 rfl rfl ?_
  refine xr_bipush (v := 6) X dX7_read_19 (by decide) ?_
  refine xr_icmp_gt (tgt := 53) X dX7_read_21 (by decide) (fun c_21 => absurd c_21 (by rw [i32_lt, k32_6, nI_toInt (by omega)]; omega)) (fun _ => ?_)
  refine xr_iload_n X 1 dX7_read_24 rfl rfl ?_
  refine xr_if_eq (tgt := 53) X dX7_read_25 (by decide) (fun c_25 => absurd c_25 (by decide)) (fun _ => ?_)
  refine xr_iload_n X 0 dX7_read_28 rfl rfl ?_
  refine xr_if_le (tgt := 42) X dX7_read_29 (by decide) (fun c_29 => ?_) (fun c_29 => ?_)
  · have c_29 := i32_le.mp c_29
    (try simp (disch := omega) only [nI_toInt, i32_add, i32_sub, i32_mul, i64_addl, i32_l, k32_0, k64_0] at c_29)
    refine xr_aload_n X 2 dX7_read_42 rfl rfl ?_
    refine xr_callV X hko rfl kw_328 kw_330 kw_4 cw_X7_readPerson [] (c_X7_rp_ok hko hbt hB ht hL hq hpf hn6 hw h6 hk h2 hv h3 hu h4 hsz) rfl rfl rfl rfl rfl (Nat.ble_eq_true_of_le (by omega)) (Nat.ble_eq_true_of_le (by omega)) dX7_read_43 ?_
    refine xr_istore_n (lv' := [(1, .int 1), (2, .int (nI n)), (0, .ref (e + 13))]) X dX7_read_46 rfl rfl rfl ?_
    refine xr_iinc (v := nI (n + 1)) (lv' := [(2, .int (nI (n + 1))), (1, .int 1), (0, .ref (e + 13))]) X 1 dX7_read_47 rfl (nI_1 _) rfl rfl ?_
    refine xr_goto (tgt := 18) X dX7_read_50 (by decide) ?_
    refine xr_locs (lv' := [(2, .int (nI (n + 1))), (1, .int 1), (0, .ref (e + 13))]) [0, 1, 2] rfl ?_
    exact K
  · have c_29 := mt i32_le.mpr c_29
    (try simp (disch := omega) only [nI_toInt, i32_add, i32_sub, i32_mul, i64_addl, i32_l, k32_0, k64_0] at c_29)
    refine xr_aload_n X 2 dX7_read_32 rfl rfl ?_
    refine xr_get X fF_X7_31_6 hko rfl dX7_read_33 ?_
    refine xr_if_ne (tgt := 42) X dX7_read_36 (by decide) (fun _ => ?_) (fun c_36 => absurd c_36 (nI_ne0 (Nat.pos_of_ne_zero (hnz (by omega))) (by omega)))
    refine xr_aload_n X 2 dX7_read_42 rfl rfl ?_
    refine xr_callV X hko rfl kw_328 kw_330 kw_4 cw_X7_readPerson [] (c_X7_rp_ok hko hbt hB ht hL hq hpf hn6 hw h6 hk h2 hv h3 hu h4 hsz) rfl rfl rfl rfl rfl (Nat.ble_eq_true_of_le (by omega)) (Nat.ble_eq_true_of_le (by omega)) dX7_read_43 ?_
    refine xr_istore_n (lv' := [(1, .int 1), (2, .int (nI n)), (0, .ref (e + 13))]) X dX7_read_46 rfl rfl rfl ?_
    refine xr_iinc (v := nI (n + 1)) (lv' := [(2, .int (nI (n + 1))), (1, .int 1), (0, .ref (e + 13))]) X 1 dX7_read_47 rfl (nI_1 _) rfl rfl ?_
    refine xr_goto (tgt := 18) X dX7_read_50 (by decide) ?_
    refine xr_locs (lv' := [(2, .int (nI (n + 1))), (1, .int 1), (0, .ref (e + 13))]) [0, 1, 2] rfl ?_
    exact K
set_option maxRecDepth 100000 in
theorem l_X7_rd_end {Γ : xΓ} {Ω : xW} {h : xH} {sz : Nat} (X : xX Γ Ω cX7_read 3 RX7 "read" (some .int) 7 245 7 21) {e : Nat} {fa : Int32} {bt : Nat → Int32} {t : Nat → Nat} {L q n : Nat} {pf : Nat → Option Nat} (hko : h (e + 13) = some (kO e (nI L) (nI n) fa (nI (tK t L q)) (nI (tS t L q)) (nI (tE t L q)))) (hbt : h (e + 14) = some (.inl (.byte, 300, .inl bt))) (hB : ∀ q, q < L → bt q = sb (t q)) (ht : ∀ q, q < L → t q < 256) (hL : L ≤ 300) (hq : q ≤ L) (hpf : h (e + 15) = some (.inl (.object "EvePost$Person", 6, .inr (.inr (.inr (.inr pf)))))) (hn6 : n ≤ 6) (h0 : 0 < n) (hk0 : tK t L q = 0) : xG Γ Ω 3 (xQ Γ Ω (some (.int (-1))) (xu h (e + 13) (.inr (6, [.ref (e + 14), .int (0), .ref (e + 15), .int (nI n), .int (fa), .int (nI (tK t L q)), .int (nI (tS t L q)), .int (nI (tE t L q))]))) (sz) 7 21) 18 [(2, .int (nI n)), (1, .int 1), (0, .ref (e + 13))] ([]) h sz 6 18 := by
  have tkq := tK_le t L q
  refine xr_iload_n X 0 dX7_read_18 rfl rfl ?_
  refine xr_bipush (v := 6) X dX7_read_19 (by decide) ?_
  refine xr_icmp_gt (tgt := 53) X dX7_read_21 (by decide) (fun c_21 => absurd c_21 (by rw [i32_lt, k32_6, nI_toInt (by omega)]; omega)) (fun _ => ?_)
  refine xr_iload_n X 1 dX7_read_24 rfl rfl ?_
  refine xr_if_eq (tgt := 53) X dX7_read_25 (by decide) (fun c_25 => absurd c_25 (by decide)) (fun _ => ?_)
  refine xr_iload_n X 0 dX7_read_28 rfl rfl ?_
  refine xr_if_le (tgt := 42) X dX7_read_29 (by decide) (fun c_29 => absurd c_29 (nI_nle (by omega) (by omega))) (fun _ => ?_)
  refine xr_aload_n X 2 dX7_read_32 rfl rfl ?_
  refine xr_get X fF_X7_31_6 hko rfl dX7_read_33 ?_
  refine xr_if_ne (tgt := 42) X dX7_read_36 (by decide) (fun c_36 => absurd (by rw [hk0]; rfl) c_36) (fun _ => ?_)
  refine xr_goto (tgt := 53) X dX7_read_39 (by decide) ?_
  refine xr_aload_n X 2 dX7_read_53 rfl rfl ?_
  refine xr_iconst (v := 0) X dX7_read_54 (by decide) ?_
  refine xr_put (fs' := [.ref (e + 14), .int 0, .ref (e + 15), .int (nI n), .int (fa), .int (nI (tK t L q)), .int (nI (tS t L q)), .int (nI (tE t L q))]) X (fW_X7_15_6 _) hko rfl rfl rfl rfl dX7_read_55 ?_
  refine xr_iload_n X 1 dX7_read_58 rfl rfl ?_
  refine xr_if_eq (tgt := 66) X dX7_read_59 (by decide) (fun c_59 => absurd c_59 (by decide)) (fun _ => ?_)
  refine xr_iconst (v := (-1)) X dX7_read_62 (by decide) ?_
  refine xr_goto (tgt := 70) X dX7_read_63 (by decide) ?_
  exact xr_iret X rfl rfl rfl rfl rfl rfl dX7_read_70
def pOb (t : Nat → Nat) (L i : Nat) : xE := .inr (pCi (kdR t L i), [.int (nI i), .int (nI (whR t L i)), .int (nI (mnR t L i))])
def pAr (pf : Nat → Option Nat) : xE := .inl (.object "EvePost$Person", 6, .inr (.inr (.inr (.inr pf))))
def kQ (e : Nat) (t : Nat → Nat) (L : Nat) (le pr fa : Int32) (q : Nat) : xE := kO e le pr fa (nI (tK t L q)) (nI (tS t L q)) (nI (tE t L q))
def rpS (e : Nat) (t : Nat → Nat) (L : Nat) (fa : Int32) (h : xH) (sz i : Nat) (pf : Nat → Option Nat) : xH := xu (xu (xu h (e + 13) (kQ e t L (nI L) (nI (i + 1)) fa (pAt t L (i + 1)))) sz (pOb t L i)) (e + 15) (pAr (va_up pf i (some sz)))
def finP (e : Nat) (t : Nat → Nat) (L : Nat) (fa : Int32) : Nat → Nat → xH → Nat → (Nat → Option Nat) → xH
  | 0, _, h, _, _ => h
  | n + 1, i, h, sz, pf => finP e t L fa n (i + 1) (rpS e t L fa h sz i pf) (sz + 1) (va_up pf i (some sz))
set_option maxRecDepth 100000 in
theorem l_X7_rdOk {Γ : xΓ} {Ω : xW} {e : Nat} {fa : Int32} {bt : Nat → Int32} {t : Nat → Nat} {L N : Nat} (X : xX Γ Ω cX7_read 3 RX7 "read" (some .int) 7 245 7 21) (hB : ∀ q, q < L → bt q = sb (t q)) (ht : ∀ q, q < L → t q < 256) (hL : L ≤ 300) : ∀ (j i : Nat), i + j = 7 → i ≤ 6 → rdR t L j i = (N, none) → ∀ (h : xH) (sz : Nat) (pf : Nat → Option Nat), h (e + 13) = some (kQ e t L (nI L) (nI i) fa (pAt t L i)) → h (e + 14) = some (.inl (.byte, 300, .inl bt)) → h (e + 15) = some (pAr pf) → e + 16 ≤ sz → xG Γ Ω 3 (xQ Γ Ω (some (.int (-1))) (xu (finP e t L fa (N - i) i h sz pf) (e + 13) (kQ e t L 0 (nI N) fa (pAt t L N))) (sz + (N - i)) 7 21) 18 [(2, .int (nI i)), (1, .int 1), (0, .ref (e + 13))] [] h sz i (3 * i) := by
  intro j
  induction j with
  | zero => intro i h1 h2; omega
  | succ j ih =>
    intro i h1 h2 h3 h sz pf hm hbt hpf hsz
    have hq := pAt_le t L i
    have hrk := rdR_ok h2 h3 h1
    by_cases c0 : 0 < i ∧ tK t L (pAt t L i) = 0
    · rw [rdR_e c0] at h3
      cases h3
      rw [Nat.sub_self]
      refine xr_wid (k2 := 6) (n2 := 18) (by omega) (by omega) ?_
      exact l_X7_rd_end X hm hbt hB ht hL hq hpf h2 c0.1 c0.2
    · cases hr : rdF t L i (pAt t L i) with
      | some x => rw [rdR_f c0 hr] at h3; cases h3
      | none =>
        rw [rdR_n c0 hr] at h3
        have hw := (rdF_ok hr).1
        have hk := wdP_1 hw
        have hrk2 := rdR_ok (i := i + 1) (by have := (rdF_ok hr).2.1; omega) h3 (by omega)
        obtain ⟨g1, g2, g3, g4, g5, g6, g7, g8⟩ := rdF_ok hr
        have hd : N - i = (N - (i + 1)) + 1 := by omega
        rw [hd, show sz + (N - (i + 1) + 1) = sz + 1 + (N - (i + 1)) by omega]
        refine l_X7_rd_ok X hm hbt hB ht hL hq hpf h2 (by omega) hw (by omega) g3 g4 g5 g6 g7 g8 hsz ?_
        exact ih (i + 1) (by omega) (by omega) h3 _ (sz + 1) (va_up pf i (some sz)) (xu_at (xne _ rfl) (xu_at (by omega) (xu_s _ _ _))) (xu_at (xne _ rfl) (xu_at (by omega) (xu_at (xne _ rfl) hbt))) (xu_s _ _ _) (by omega)
set_option maxRecDepth 100000 in
theorem rdR_N {t : Nat → Nat} {L N : Nat} {x : Nat × Nat} : ∀ {f i : Nat}, i ≤ 6 → rdR t L f i = (N, some x) → i + f = 7 → i ≤ N ∧ N ≤ 6
  | 0, i, h6, h, hf => by omega
  | f + 1, i, h6, h, hf => by
    by_cases c : 0 < i ∧ tK t L (pAt t L i) = 0
    · rw [rdR_e c] at h; cases h
    · cases e : rdF t L i (pAt t L i) with
      | some y => rw [rdR_f c e] at h; cases h; exact ⟨Nat.le_refl _, h6⟩
      | none =>
        rw [rdR_n c e] at h
        have hi := (rdF_ok e).2.1
        have := rdR_N (f := f) (i := i + 1) (by omega) h (by omega)
        omega
set_option maxRecDepth 100000 in
theorem l_X7_rdBad {Γ : xΓ} {Ω : xW} {e : Nat} {fa : Int32} {bt : Nat → Int32} {t : Nat → Nat} {L N : Nat} {f9 y9 : Nat} (X : xX Γ Ω cX7_read 3 RX7 "read" (some .int) 7 245 7 21) (hB : ∀ q, q < L → bt q = sb (t q)) (ht : ∀ q, q < L → t q < 256) (hL : L ≤ 300) : ∀ (j i : Nat), i + j = 7 → i ≤ 6 → rdR t L j i = (N, some (f9, y9)) → ∀ (h : xH) (sz : Nat) (pf : Nat → Option Nat), h (e + 13) = some (kQ e t L (nI L) (nI i) fa (pAt t L i)) → h (e + 14) = some (.inl (.byte, 300, .inl bt)) → h (e + 15) = some (pAr pf) → e + 16 ≤ sz → xG Γ Ω 3 (xQ Γ Ω (some (.int (nI (tS t L y9)))) (xu (finP e t L fa (N - i) i h sz pf) (e + 13) (kQ e t L 0 (nI N) (nI f9) y9)) (sz + (N - i)) 7 21) 18 [(2, .int (nI i)), (1, .int 1), (0, .ref (e + 13))] [] h sz i (3 * i) := by
  intro j
  induction j with
  | zero => intro i h1 h2; omega
  | succ j ih =>
    intro i h1 h2 h3 h sz pf hm hbt hpf hsz
    have hq := pAt_le t L i
    by_cases c0 : 0 < i ∧ tK t L (pAt t L i) = 0
    · rw [rdR_e c0] at h3; cases h3
    · have hnz : 0 < i → ¬ tK t L (pAt t L i) = 0 := fun a b => c0 ⟨a, b⟩
      cases hr : rdF t L i (pAt t L i) with
      | some x =>
        rw [rdR_f c0 hr] at h3
        cases h3
        rw [Nat.sub_self]
        refine xr_wid (k2 := 6) (n2 := 18) (by omega) (by omega) ?_
        cases hw : wdP t L (pAt t L N) wl_person with
        | false =>
          rw [rdF_w hw] at hr
          cases hr
          exact l_X7_rd_n X hm hbt hB ht hL hq hpf h2 hnz hw
        | true =>
          rcases rdF_bad hr hw with ⟨g1, rfl, rfl⟩ | ⟨g1, g2, rfl, rfl⟩ | ⟨g1, g2, g3, rfl, rfl⟩ | ⟨g1, g2, g3, g4, rfl, rfl⟩ | ⟨g1, g2, g3, g4, g5, rfl, rfl⟩ | ⟨g1, g2, g3, g4, g5, g6, rfl, rfl⟩ | ⟨g1, g2, g3, g4, g5, g6, g7, rfl, rfl⟩
          · exact l_X7_rd_3 X hm hbt hB ht hL hq hpf h2 hnz hw g1
          · exact l_X7_rd_k X hm hbt hB ht hL hq hpf h2 hnz hw (by omega) g2
          · exact l_X7_rd_w1 X hm hbt hB ht hL hq hpf h2 hnz hw (by omega) g2 g3
          · exact l_X7_rd_w2 X hm hbt hB ht hL hq hpf h2 hnz hw (by omega) g2 g3 g4
          · exact l_X7_rd_m1 X hm hbt hB ht hL hq hpf h2 hnz hw (by omega) g2 g3 g4 g5
          · exact l_X7_rd_m2 X hm hbt hB ht hL hq hpf h2 hnz hw (by omega) g2 g3 g4 g5 g6
          · exact l_X7_rd_s X hm hbt hB ht hL hq hpf h2 hnz hw (by omega) g2 g3 g4 g5 g6 g7
      | none =>
        rw [rdR_n c0 hr] at h3
        have hw := (rdF_ok hr).1
        have hk := wdP_1 hw
        have hrk2 := rdR_N (i := i + 1) (by have := (rdF_ok hr).2.1; omega) h3 (by omega)
        obtain ⟨g1, g2, g3, g4, g5, g6, g7, g8⟩ := rdF_ok hr
        have hd : N - i = (N - (i + 1)) + 1 := by omega
        rw [hd, show sz + (N - (i + 1) + 1) = sz + 1 + (N - (i + 1)) by omega]
        refine l_X7_rd_ok X hm hbt hB ht hL hq hpf h2 (by omega) hw (by omega) g3 g4 g5 g6 g7 g8 hsz ?_
        exact ih (i + 1) (by omega) (by omega) h3 _ (sz + 1) (va_up pf i (some sz)) (xu_at (xne _ rfl) (xu_at (by omega) (xu_s _ _ _))) (xu_at (xne _ rfl) (xu_at (by omega) (xu_at (xne _ rfl) hbt))) (xu_s _ _ _) (by omega)
set_option maxRecDepth 100000 in
theorem c_X7_read {l : Launch} {Ω : xW} {h : xH} {sz : Nat} {e : Nat} {pr fa tk fi be : Int32} {bt : Nat → Int32} {t : Nat → Nat} {L : Nat} {N : Nat} {pf : Nat → Option Nat} (hko : h (e + 13) = some (kO e (nI L) pr fa tk fi be)) (hbt : h (e + 14) = some (.inl (.byte, 300, .inl bt))) (hB : ∀ q, q < L → bt q = sb (t q)) (ht : ∀ q, q < L → t q < 256) (hL : L ≤ 300) (hpf : h (e + 15) = some (pAr pf)) (hsz : e + 16 ≤ sz) (hR : rdR t L 7 0 = (N, none)) : xC l Ω yX7_read cX7_read 3 (some .int) 7 7 21 [.ref (e + 13)] h sz (some (.int (-1))) (xu (finP e t L fa N 0 (xu h (e + 13) (.inr (6, [.ref (e + 14), .int (nI L), .ref (e + 15), .int (0), .int (fa), .int (nI (tK t L 0)), .int (nI (tS t L 0)), .int (nI (tE t L 0))]))) sz pf) (e + 13) (kQ e t L 0 (nI N) fa (pAt t L N))) (sz + N) := by
  refine xC_of (lv := [(0, .ref (e + 13))]) pn_X7 rfl rfl (fun Γ X hΓ hbs => ?_)
  have X : xX Γ Ω cX7_read 3 RX7 "read" (some .int) 7 245 7 21 := X
  subst hΓ
  refine xr_aload_n X 0 dX7_read_0 rfl rfl ?_
  refine xr_iconst (v := 0) X dX7_read_1 (by decide) ?_
  refine xr_put (fs' := [.ref (e + 14), .int (nI L), .ref (e + 15), .int 0, .int (fa), .int (tk), .int (fi), .int (be)]) X (fW_X7_25_6 _) hko rfl rfl rfl rfl dX7_read_2 ?_
  refine xr_aload_n X 0 dX7_read_5 rfl rfl ?_
  refine xr_iconst (v := 0) X dX7_read_6 (by decide) ?_
  refine xr_put (fs' := [.ref (e + 14), .int (nI L), .ref (e + 15), .int 0, .int (fa), .int (tk), .int (fi), .int 0]) X (fW_X7_37_6 _) (xu_s _ _ _) rfl rfl rfl rfl dX7_read_7 ?_
  refine xr_heap (h' := (xu h (e + 13) (.inr (6, [.ref (e + 14), .int (nI L), .ref (e + 15), .int 0, .int (fa), .int (tk), .int (fi), .int 0])))) (xu_uu _ _ _ _) ?_
  refine xr_aload_n X 0 dX7_read_10 rfl rfl ?_
  refine xr_callV X (xu_s _ _ _) rfl kw_311 kw_313 kw_2 cw_X7_step [] (c_X7_step (p := 0) (xu_s _ _ _) (xu_at (xne _ rfl) hbt) hB ht hL (Nat.zero_le _)) rfl rfl rfl rfl rfl rfl rfl dX7_read_11 ?_
  refine xr_heap (h' := (xu h (e + 13) (.inr (6, [.ref (e + 14), .int (nI L), .ref (e + 15), .int 0, .int (fa), .int (nI (tK t L 0)), .int (nI (tS t L 0)), .int (nI (tE t L 0))])))) (xu_uu _ _ _ _) ?_
  refine xr_iconst (v := 1) X dX7_read_14 (by decide) ?_
  refine xr_istore_n (lv' := [(1, .int 1), (0, .ref (e + 13))]) X dX7_read_15 rfl rfl rfl ?_
  refine xr_iconst (v := 0) X dX7_read_16 (by decide) ?_
  refine xr_istore_n (lv' := [(2, .int 0), (1, .int 1), (0, .ref (e + 13))]) X dX7_read_17 rfl rfl rfl ?_
  refine xr_locs (lv' := [(2, .int 0), (1, .int 1), (0, .ref (e + 13))]) [0, 1, 2] rfl ?_
  exact l_X7_rdOk X hB ht hL 7 0 rfl (by omega) hR _ sz pf (xu_s _ _ _) (xu_at (xne _ rfl) hbt) (xu_at (xne _ rfl) hpf) hsz
set_option maxRecDepth 100000 in
theorem c_X7_readF {l : Launch} {Ω : xW} {h : xH} {sz : Nat} {e : Nat} {pr fa tk fi be : Int32} {bt : Nat → Int32} {t : Nat → Nat} {L : Nat} {N : Nat} {pf : Nat → Option Nat} {f9 y9 : Nat} (hko : h (e + 13) = some (kO e (nI L) pr fa tk fi be)) (hbt : h (e + 14) = some (.inl (.byte, 300, .inl bt))) (hB : ∀ q, q < L → bt q = sb (t q)) (ht : ∀ q, q < L → t q < 256) (hL : L ≤ 300) (hpf : h (e + 15) = some (pAr pf)) (hsz : e + 16 ≤ sz) (hR : rdR t L 7 0 = (N, some (f9, y9))) : xC l Ω yX7_read cX7_read 3 (some .int) 7 7 21 [.ref (e + 13)] h sz (some (.int (nI (tS t L y9)))) (xu (finP e t L fa N 0 (xu h (e + 13) (.inr (6, [.ref (e + 14), .int (nI L), .ref (e + 15), .int (0), .int (fa), .int (nI (tK t L 0)), .int (nI (tS t L 0)), .int (nI (tE t L 0))]))) sz pf) (e + 13) (kQ e t L 0 (nI N) (nI f9) y9)) (sz + N) := by
  refine xC_of (lv := [(0, .ref (e + 13))]) pn_X7 rfl rfl (fun Γ X hΓ hbs => ?_)
  have X : xX Γ Ω cX7_read 3 RX7 "read" (some .int) 7 245 7 21 := X
  subst hΓ
  refine xr_aload_n X 0 dX7_read_0 rfl rfl ?_
  refine xr_iconst (v := 0) X dX7_read_1 (by decide) ?_
  refine xr_put (fs' := [.ref (e + 14), .int (nI L), .ref (e + 15), .int 0, .int (fa), .int (tk), .int (fi), .int (be)]) X (fW_X7_25_6 _) hko rfl rfl rfl rfl dX7_read_2 ?_
  refine xr_aload_n X 0 dX7_read_5 rfl rfl ?_
  refine xr_iconst (v := 0) X dX7_read_6 (by decide) ?_
  refine xr_put (fs' := [.ref (e + 14), .int (nI L), .ref (e + 15), .int 0, .int (fa), .int (tk), .int (fi), .int 0]) X (fW_X7_37_6 _) (xu_s _ _ _) rfl rfl rfl rfl dX7_read_7 ?_
  refine xr_heap (h' := (xu h (e + 13) (.inr (6, [.ref (e + 14), .int (nI L), .ref (e + 15), .int 0, .int (fa), .int (tk), .int (fi), .int 0])))) (xu_uu _ _ _ _) ?_
  refine xr_aload_n X 0 dX7_read_10 rfl rfl ?_
  refine xr_callV X (xu_s _ _ _) rfl kw_311 kw_313 kw_2 cw_X7_step [] (c_X7_step (p := 0) (xu_s _ _ _) (xu_at (xne _ rfl) hbt) hB ht hL (Nat.zero_le _)) rfl rfl rfl rfl rfl rfl rfl dX7_read_11 ?_
  refine xr_heap (h' := (xu h (e + 13) (.inr (6, [.ref (e + 14), .int (nI L), .ref (e + 15), .int 0, .int (fa), .int (nI (tK t L 0)), .int (nI (tS t L 0)), .int (nI (tE t L 0))])))) (xu_uu _ _ _ _) ?_
  refine xr_iconst (v := 1) X dX7_read_14 (by decide) ?_
  refine xr_istore_n (lv' := [(1, .int 1), (0, .ref (e + 13))]) X dX7_read_15 rfl rfl rfl ?_
  refine xr_iconst (v := 0) X dX7_read_16 (by decide) ?_
  refine xr_istore_n (lv' := [(2, .int 0), (1, .int 1), (0, .ref (e + 13))]) X dX7_read_17 rfl rfl rfl ?_
  refine xr_locs (lv' := [(2, .int 0), (1, .int 1), (0, .ref (e + 13))]) [0, 1, 2] rfl ?_
  exact l_X7_rdBad X hB ht hL 7 0 rfl (by omega) hR _ sz pf (xu_s _ _ _) (xu_at (xne _ rfl) hbt) (xu_at (xne _ rfl) hpf) hsz
