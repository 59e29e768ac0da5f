set_option maxRecDepth 100000 in
theorem c_X12_rp_3 {l : Launch} {Ω : xW} {h : xH} {sz : Nat} {m : Nat} {st ac la fl tr : Int32} {tape fresh : Nat → Int32} {t : Nat → Nat} {L q n : Nat} (hm : h m = some (mO m st ac 0 la (nI L) (nI (tE t L q)) (nI ((tK t L q + 1) % 5)) (nI (tS t L q)) (nI (tE t L q)) 0 fl tr)) (hfresh : h (m + 5) = some (.inl (.int, 21, .inl fresh))) (htape : h (m + 7) = some (.inl (.int, 300, .inl tape))) (hB : ∀ q, q < L → tape q = nI (t q)) (ht : ∀ q, q < L → t q < 256) (hL : L ≤ 300) (hq : q ≤ L) (hw : wdP t L q wl_person = true) (hn : fresh 0 = nI n) (hn6 : n ≤ 6) (h6 : n = 6) : xC l Ω yX12_readPerson cX12_readPerson 5 none 4 0 0 [.ref m] h sz (none) (xu h m (.inr (11, [.int 0, .int st, .ref (m + 1), .ref (m + 2), .ref (m + 3), .ref (m + 4), .ref (m + 5), .ref (m + 6), .int ac, .ref (m + 7), .int 0, .int la, .int (nI L), .int (nI (tE t L q)), .int (nI ((tK t L q + 1) % 5)), .int (nI (tS t L q)), .int (nI (tE t L q)), .int 3, .int (nI (tS t L q)), .ref (m + 8), .ref (m + 9), .ref (m + 10), .ref (m + 11), .int tr]))) (sz) := by
  refine xC_of (lv := [(0, .ref m)]) pn_X12 rfl rfl (fun Γ X hΓ hbs => ?_)
  have X : xX Γ Ω cX12_readPerson 5 RX12 "readPerson" none 4 140 0 0 := X
  subst hΓ
  have r1 : (tE t L q) ≤ L := (tE_rng hq).2
  have r2 : (tE t L (tE t L q)) ≤ L := (tE_rng r1).2
  have r3 : (tE t L (tE t L (tE t L q))) ≤ L := (tE_rng r2).2
  have r4 : (tE t L (tE t L (tE t L (tE t L q)))) ≤ L := (tE_rng r3).2
  have n2 := nuv_lt t L (tE t L (tE t L q)) r2
  have n3 := nuv_lt t L (tE t L (tE t L (tE t L q))) r3
  have kw1 := kiW_le t L (tE t L q)
  have tk4 := tK_le t L (tE t L (tE t L (tE t L (tE t L q))))
  refine xr_aload_n X 0 dX12_readPerson_0 rfl rfl ?_
  refine xr_get X fF_X12_22_11 hm rfl dX12_readPerson_1 ?_
  refine xr_iconst (v := 0) X dX12_readPerson_4 (by decide) ?_
  refine xr_iald (j := 0) X hfresh (xI_e (by decide) (by omega) (by omega)) dX12_readPerson_5 ?_
  refine xr_top (y := (nI n)) hn ?_
  refine xr_bipush (v := 6) X dX12_readPerson_6 (by decide) ?_
  refine xr_icmp_ne (tgt := 16) X dX12_readPerson_8 (by decide) (fun c_8 => absurd (by rw [h6]; decide) c_8) (fun _ => ?_)
  refine xr_aload_n X 0 dX12_readPerson_11 rfl rfl ?_
  refine xr_iconst (v := 3) X dX12_readPerson_12 (by decide) ?_
  refine xr_callV X hm rfl kw_1084 kw_1086 kw_26 cw_X12_bad [.int 3] (c_X12_bad hm) rfl rfl rfl rfl rfl rfl rfl dX12_readPerson_13 ?_
  refine xr_aload_n X 0 dX12_readPerson_16 rfl rfl ?_
  refine xr_iconst (v := 1) X dX12_readPerson_17 (by decide) ?_
  refine xr_callV X (xu_s _ _ _) rfl kw_1092 kw_1094 kw_28 cw_X12_must [.int 1] (c_X12_must1 (xu_s _ _ _) (by decide)) rfl rfl rfl rfl rfl rfl rfl dX12_readPerson_18 ?_
  refine xr_aload_n X 0 dX12_readPerson_21 rfl rfl ?_
  refine xr_callV X (xu_s _ _ _) rfl kw_1079 kw_1081 kw_25 cw_X12_name [] (c_X12_name (xu_s _ _ _) (xu_at (xn1 _ rfl) htape) hB ht hL (by omega)) rfl rfl rfl rfl rfl rfl rfl dX12_readPerson_22 ?_
  refine xr_callS X kw_1096 kw_1097 cw_X12_kindBy [.long (if (3 : Int32) = 0 then Int64.ofNat (nmv t L q) else 0)] c_X12_kindBy rfl rfl rfl rfl rfl rfl rfl dX12_readPerson_25 ?_
  refine xr_top (y := (-1000000)) (by rw [if_neg (by decide)]; decide) ?_
  refine xr_istore_n (lv' := [(1, .int (-1000000)), (0, .ref m)]) X dX12_readPerson_28 rfl rfl rfl ?_
  refine xr_aload_n X 1 dX12_readPerson_29 rfl rfl ?_
  refine xr_get X fF_X12_102_11 (xu_s _ _ _) rfl dX12_readPerson_30 ?_
  refine xr_if_ne (tgt := 51) X dX12_readPerson_33 (by decide) (fun _ => ?_) (fun c_33 => absurd c_33 (by decide))
  refine xr_aload_n X 1 dX12_readPerson_51 rfl rfl ?_
  refine xr_iconst (v := 0) X dX12_readPerson_52 (by decide) ?_
  refine xr_iconst (v := 5) X dX12_readPerson_53 (by decide) ?_
  refine xr_callV X (xu_s _ _ _) rfl kw_1104 kw_1106 kw_29 cw_X12_number [.int 0, .int 5] (c_X12_numberF (hi := 5) (xu_s _ _ _) (by decide)) rfl rfl rfl rfl rfl rfl rfl dX12_readPerson_54 ?_
  refine xr_istore_n (lv' := [(2, .int 0), (1, .int (-1000000)), (0, .ref m)]) X dX12_readPerson_57 rfl rfl rfl ?_
  refine xr_aload_n X 2 dX12_readPerson_58 rfl rfl ?_
  refine xr_iconst (v := 0) X dX12_readPerson_59 (by decide) ?_
  refine xr_bipush (v := 9) X dX12_readPerson_60 (by decide) ?_
  refine xr_callV X (xu_s _ _ _) rfl kw_1104 kw_1106 kw_29 cw_X12_number [.int 0, .int 9] (c_X12_numberF (hi := 9) (xu_s _ _ _) (by decide)) rfl rfl rfl rfl rfl rfl rfl dX12_readPerson_62 ?_
  refine xr_istore_n (lv' := [(3, .int 0), (2, .int 0), (1, .int (-1000000)), (0, .ref m)]) X dX12_readPerson_65 rfl rfl rfl ?_
  refine xr_aload_n X 3 dX12_readPerson_66 rfl rfl ?_
  refine xr_get X fF_X12_102_11 (xu_s _ _ _) rfl dX12_readPerson_67 ?_
  refine xr_if_ne (tgt := 90) X dX12_readPerson_70 (by decide) (fun _ => ?_) (fun c_70 => absurd c_70 (by decide))
  refine xr_aload_n X 3 dX12_readPerson_90 rfl rfl ?_
  refine xr_get X fF_X12_102_11 (xu_s _ _ _) rfl dX12_readPerson_91 ?_
  refine xr_if_ne (tgt := 147) X dX12_readPerson_94 (by decide) (fun _ => ?_) (fun c_94 => absurd c_94 (by decide))
  exact xr_vret X rfl rfl rfl rfl rfl rfl dX12_readPerson_147
set_option maxRecDepth 100000 in
theorem c_X12_rp_k {l : Launch} {Ω : xW} {h : xH} {sz : Nat} {m : Nat} {st ac la fl tr : Int32} {tape fresh : Nat → Int32} {t : Nat → Nat} {L q n : Nat} (hm : h m = some (mO m st ac 0 la (nI L) (nI (tE t L q)) (nI ((tK t L q + 1) % 5)) (nI (tS t L q)) (nI (tE t L q)) 0 fl tr)) (hfresh : h (m + 5) = some (.inl (.int, 21, .inl fresh))) (htape : h (m + 7) = some (.inl (.int, 300, .inl tape))) (hB : ∀ q, q < L → tape q = nI (t q)) (ht : ∀ q, q < L → t q < 256) (hL : L ≤ 300) (hq : q ≤ L) (hw : wdP t L q wl_person = true) (hn : fresh 0 = nI n) (hn6 : n ≤ 6) (h6 : n < 6) (hk : kiW t L (tE t L q) = 0) : xC l Ω yX12_readPerson cX12_readPerson 5 none 4 0 0 [.ref m] h sz (none) (xu h m (.inr (11, [.int 0, .int st, .ref (m + 1), .ref (m + 2), .ref (m + 3), .ref (m + 4), .ref (m + 5), .ref (m + 6), .int ac, .ref (m + 7), .int 0, .int la, .int (nI L), .int (nI (tE t L (tE t L q))), .int (nI ((tK t L (tE t L q) + 1) % 5)), .int (nI (tS t L (tE t L q))), .int (nI (tE t L (tE t L q))), .int 1, .int (nI (tS t L (tE t L q))), .ref (m + 8), .ref (m + 9), .ref (m + 10), .ref (m + 11), .int tr]))) (sz) := by
  refine xC_of (lv := [(0, .ref m)]) pn_X12 rfl rfl (fun Γ X hΓ hbs => ?_)
  have X : xX Γ Ω cX12_readPerson 5 RX12 "readPerson" none 4 140 0 0 := X
  subst hΓ
  have r1 : (tE t L q) ≤ L := (tE_rng hq).2
  have r2 : (tE t L (tE t L q)) ≤ L := (tE_rng r1).2
  have r3 : (tE t L (tE t L (tE t L q))) ≤ L := (tE_rng r2).2
  have r4 : (tE t L (tE t L (tE t L (tE t L q)))) ≤ L := (tE_rng r3).2
  have n2 := nuv_lt t L (tE t L (tE t L q)) r2
  have n3 := nuv_lt t L (tE t L (tE t L (tE t L q))) r3
  have kw1 := kiW_le t L (tE t L q)
  have tk4 := tK_le t L (tE t L (tE t L (tE t L (tE t L q))))
  refine xr_aload_n X 0 dX12_readPerson_0 rfl rfl ?_
  refine xr_get X fF_X12_22_11 hm rfl dX12_readPerson_1 ?_
  refine xr_iconst (v := 0) X dX12_readPerson_4 (by decide) ?_
  refine xr_iald (j := 0) X hfresh (xI_e (by decide) (by omega) (by omega)) dX12_readPerson_5 ?_
  refine xr_top (y := (nI n)) hn ?_
  refine xr_bipush (v := 6) X dX12_readPerson_6 (by decide) ?_
  refine xr_icmp_ne (tgt := 16) X dX12_readPerson_8 (by decide) (fun _ => ?_) (fun c_8 => absurd c_8 (by rw [i32_eq, nI_toInt (by omega), k32_6]; omega))
  refine xr_aload_n X 0 dX12_readPerson_16 rfl rfl ?_
  refine xr_iconst (v := 1) X dX12_readPerson_17 (by decide) ?_
  refine xr_callV X hm rfl kw_1092 kw_1094 kw_28 cw_X12_must [.int 1] (c_X12_must hm htape hB ht hL (by omega)) rfl rfl rfl rfl rfl rfl rfl dX12_readPerson_18 ?_
  refine xr_aload_n X 0 dX12_readPerson_21 rfl rfl ?_
  refine xr_callV X (xu_s _ _ _) rfl kw_1079 kw_1081 kw_25 cw_X12_name [] (c_X12_name (xu_s _ _ _) (xu_at (xn1 _ rfl) htape) hB ht hL (by omega)) rfl rfl rfl rfl rfl rfl rfl dX12_readPerson_22 ?_
  refine xr_callS X kw_1096 kw_1097 cw_X12_kindBy [.long (if (0 : Int32) = 0 then Int64.ofNat (nmv t L (tE t L q)) else 0)] c_X12_kindBy rfl rfl rfl rfl rfl rfl rfl dX12_readPerson_25 ?_
  refine xr_top (y := (-1000000)) (by rw [if_pos rfl, nmv_i r1 ht, kdB_e r1, if_pos hk]) ?_
  refine xr_istore_n (lv' := [(1, .int (-1000000)), (0, .ref m)]) X dX12_readPerson_28 rfl rfl rfl ?_
  refine xr_aload_n X 1 dX12_readPerson_29 rfl rfl ?_
  refine xr_get X fF_X12_102_11 (xu_s _ _ _) rfl dX12_readPerson_30 ?_
  refine xr_if_ne (tgt := 51) X dX12_readPerson_33 (by decide) (fun c_33 => absurd (by decide) c_33) (fun _ => ?_)
  refine xr_aload_n X 1 dX12_readPerson_36 rfl rfl ?_
  refine xr_iload_n X 0 dX12_readPerson_37 rfl rfl ?_
  refine xr_ldc (v := (-1000000)) X kw_1072 dX12_readPerson_38 ?_
  refine xr_icmp_eq (tgt := 47) X dX12_readPerson_40 (by decide) (fun _ => ?_) (fun c_40 => absurd rfl c_40)
  refine xr_iconst (v := 0) X dX12_readPerson_47 (by decide) ?_
  refine xr_callV X (xu_s _ _ _) rfl kw_1092 kw_1094 kw_28 cw_X12_must [.int 0] (c_X12_must0 (xu_s _ _ _)) rfl rfl rfl rfl rfl rfl rfl dX12_readPerson_48 ?_
  refine xr_heap (h' := (xu h m (.inr (11, [.int 0, .int st, .ref (m + 1), .ref (m + 2), .ref (m + 3), .ref (m + 4), .ref (m + 5), .ref (m + 6), .int ac, .ref (m + 7), .int 0, .int la, .int (nI L), .int (nI (tE t L (tE t L q))), .int (nI ((tK t L (tE t L q) + 1) % 5)), .int (nI (tS t L (tE t L q))), .int (nI (tE t L (tE t L q))), .int 1, .int (nI (tS t L (tE t L q))), .ref (m + 8), .ref (m + 9), .ref (m + 10), .ref (m + 11), .int tr])))) (xu_uu _ _ _ _) ?_
  refine xr_aload_n X 1 dX12_readPerson_51 rfl rfl ?_
  refine xr_iconst (v := 0) X dX12_readPerson_52 (by decide) ?_
  refine xr_iconst (v := 5) X dX12_readPerson_53 (by decide) ?_
  refine xr_callV X (xu_s _ _ _) rfl kw_1104 kw_1106 kw_29 cw_X12_number [.int 0, .int 5] (c_X12_numberF (hi := 5) (xu_s _ _ _) (by decide)) rfl rfl rfl rfl rfl rfl rfl dX12_readPerson_54 ?_
  refine xr_istore_n (lv' := [(2, .int 0), (1, .int (-1000000)), (0, .ref m)]) X dX12_readPerson_57 rfl rfl rfl ?_
  refine xr_aload_n X 2 dX12_readPerson_58 rfl rfl ?_
  refine xr_iconst (v := 0) X dX12_readPerson_59 (by decide) ?_
  refine xr_bipush (v := 9) X dX12_readPerson_60 (by decide) ?_
  refine xr_callV X (xu_s _ _ _) rfl kw_1104 kw_1106 kw_29 cw_X12_number [.int 0, .int 9] (c_X12_numberF (hi := 9) (xu_s _ _ _) (by decide)) rfl rfl rfl rfl rfl rfl rfl dX12_readPerson_62 ?_
  refine xr_istore_n (lv' := [(3, .int 0), (2, .int 0), (1, .int (-1000000)), (0, .ref m)]) X dX12_readPerson_65 rfl rfl rfl ?_
  refine xr_aload_n X 3 dX12_readPerson_66 rfl rfl ?_
  refine xr_get X fF_X12_102_11 (xu_s _ _ _) rfl dX12_readPerson_67 ?_
  refine xr_if_ne (tgt := 90) X dX12_readPerson_70 (by decide) (fun _ => ?_) (fun c_70 => absurd c_70 (by decide))
  refine xr_aload_n X 3 dX12_readPerson_90 rfl rfl ?_
  refine xr_get X fF_X12_102_11 (xu_s _ _ _) rfl dX12_readPerson_91 ?_
  refine xr_if_ne (tgt := 147) X dX12_readPerson_94 (by decide) (fun _ => ?_) (fun c_94 => absurd c_94 (by decide))
  exact xr_vret X rfl rfl rfl rfl rfl rfl dX12_readPerson_147
set_option maxRecDepth 100000 in
theorem c_X12_rp_w1 {l : Launch} {Ω : xW} {h : xH} {sz : Nat} {m : Nat} {st ac la fl tr : Int32} {tape fresh : Nat → Int32} {t : Nat → Nat} {L q n : Nat} (hm : h m = some (mO m st ac 0 la (nI L) (nI (tE t L q)) (nI ((tK t L q + 1) % 5)) (nI (tS t L q)) (nI (tE t L q)) 0 fl tr)) (hfresh : h (m + 5) = some (.inl (.int, 21, .inl fresh))) (htape : h (m + 7) = some (.inl (.int, 300, .inl tape))) (hB : ∀ q, q < L → tape q = nI (t q)) (ht : ∀ q, q < L → t q < 256) (hL : L ≤ 300) (hq : q ≤ L) (hw : wdP t L q wl_person = true) (hn : fresh 0 = nI n) (hn6 : n ≤ 6) (h6 : n < 6) (hk : ¬ kiW t L (tE t L q) = 0) (h2 : ¬ tK t L (tE t L (tE t L q)) = 2) : xC l Ω yX12_readPerson cX12_readPerson 5 none 4 0 0 [.ref m] h sz (none) (xu h m (.inr (11, [.int 0, .int st, .ref (m + 1), .ref (m + 2), .ref (m + 3), .ref (m + 4), .ref (m + 5), .ref (m + 6), .int ac, .ref (m + 7), .int 0, .int la, .int (nI L), .int (nI (tE t L (tE t L (tE t L q)))), .int (nI ((tK t L (tE t L (tE t L q)) + 1) % 5)), .int (nI (tS t L (tE t L (tE t L q)))), .int (nI (tE t L (tE t L (tE t L q)))), .int 1, .int (nI (tS t L (tE t L (tE t L q)))), .ref (m + 8), .ref (m + 9), .ref (m + 10), .ref (m + 11), .int tr]))) (sz) := by
  refine xC_of (lv := [(0, .ref m)]) pn_X12 rfl rfl (fun Γ X hΓ hbs => ?_)
  have X : xX Γ Ω cX12_readPerson 5 RX12 "readPerson" none 4 140 0 0 := X
  subst hΓ
  have r1 : (tE t L q) ≤ L := (tE_rng hq).2
  have r2 : (tE t L (tE t L q)) ≤ L := (tE_rng r1).2
  have r3 : (tE t L (tE t L (tE t L q))) ≤ L := (tE_rng r2).2
  have r4 : (tE t L (tE t L (tE t L (tE t L q)))) ≤ L := (tE_rng r3).2
  have n2 := nuv_lt t L (tE t L (tE t L q)) r2
  have n3 := nuv_lt t L (tE t L (tE t L (tE t L q))) r3
  have kw1 := kiW_le t L (tE t L q)
  have tk4 := tK_le t L (tE t L (tE t L (tE t L (tE t L q))))
  refine xr_aload_n X 0 dX12_readPerson_0 rfl rfl ?_
  refine xr_get X fF_X12_22_11 hm rfl dX12_readPerson_1 ?_
  refine xr_iconst (v := 0) X dX12_readPerson_4 (by decide) ?_
  refine xr_iald (j := 0) X hfresh (xI_e (by decide) (by omega) (by omega)) dX12_readPerson_5 ?_
  refine xr_top (y := (nI n)) hn ?_
  refine xr_bipush (v := 6) X dX12_readPerson_6 (by decide) ?_
  refine xr_icmp_ne (tgt := 16) X dX12_readPerson_8 (by decide) (fun _ => ?_) (fun c_8 => absurd c_8 (by rw [i32_eq, nI_toInt (by omega), k32_6]; omega))
  refine xr_aload_n X 0 dX12_readPerson_16 rfl rfl ?_
  refine xr_iconst (v := 1) X dX12_readPerson_17 (by decide) ?_
  refine xr_callV X hm rfl kw_1092 kw_1094 kw_28 cw_X12_must [.int 1] (c_X12_must hm htape hB ht hL (by omega)) rfl rfl rfl rfl rfl rfl rfl dX12_readPerson_18 ?_
  refine xr_aload_n X 0 dX12_readPerson_21 rfl rfl ?_
  refine xr_callV X (xu_s _ _ _) rfl kw_1079 kw_1081 kw_25 cw_X12_name [] (c_X12_name (xu_s _ _ _) (xu_at (xn1 _ rfl) htape) hB ht hL (by omega)) rfl rfl rfl rfl rfl rfl rfl dX12_readPerson_22 ?_
  refine xr_callS X kw_1096 kw_1097 cw_X12_kindBy [.long (if (0 : Int32) = 0 then Int64.ofNat (nmv t L (tE t L q)) else 0)] c_X12_kindBy rfl rfl rfl rfl rfl rfl rfl dX12_readPerson_25 ?_
  refine xr_top (y := (nI (kiW t L (tE t L q)))) (by rw [if_pos rfl, nmv_i r1 ht, kdB_e r1, if_neg hk]) ?_
  refine xr_istore_n (lv' := [(1, .int (nI (kiW t L (tE t L q)))), (0, .ref m)]) X dX12_readPerson_28 rfl rfl rfl ?_
  refine xr_aload_n X 1 dX12_readPerson_29 rfl rfl ?_
  refine xr_get X fF_X12_102_11 (xu_s _ _ _) rfl dX12_readPerson_30 ?_
  refine xr_if_ne (tgt := 51) X dX12_readPerson_33 (by decide) (fun c_33 => absurd (by decide) c_33) (fun _ => ?_)
  refine xr_aload_n X 1 dX12_readPerson_36 rfl rfl ?_
  refine xr_iload_n X 0 dX12_readPerson_37 rfl rfl ?_
  refine xr_ldc (v := (-1000000)) X kw_1072 dX12_readPerson_38 ?_
  refine xr_icmp_eq (tgt := 47) X dX12_readPerson_40 (by decide) (fun c_40 => absurd c_40 (by rw [i32_eq, nI_toInt (by omega), k32_m1000000]; omega)) (fun _ => ?_)
  refine xr_iconst (v := 1) X dX12_readPerson_43 (by decide) ?_
  refine xr_goto (tgt := 48) X dX12_readPerson_44 (by decide) ?_
  refine xr_callV X (xu_s _ _ _) rfl kw_1092 kw_1094 kw_28 cw_X12_must [.int 1] (c_X12_must (xu_s _ _ _) (xu_at (xn1 _ rfl) htape) hB ht hL (by omega)) rfl rfl rfl rfl rfl rfl rfl dX12_readPerson_48 ?_
  refine xr_heap (h' := (xu h m (.inr (11, [.int 0, .int st, .ref (m + 1), .ref (m + 2), .ref (m + 3), .ref (m + 4), .ref (m + 5), .ref (m + 6), .int ac, .ref (m + 7), .int 0, .int la, .int (nI L), .int (nI (tE t L (tE t L (tE t L q)))), .int (nI ((tK t L (tE t L (tE t L q)) + 1) % 5)), .int (nI (tS t L (tE t L (tE t L q)))), .int (nI (tE t L (tE t L (tE t L q)))), .int 0, .int fl, .ref (m + 8), .ref (m + 9), .ref (m + 10), .ref (m + 11), .int tr])))) (xu_uu _ _ _ _) ?_
  refine xr_aload_n X 1 dX12_readPerson_51 rfl rfl ?_
  refine xr_iconst (v := 0) X dX12_readPerson_52 (by decide) ?_
  refine xr_iconst (v := 5) X dX12_readPerson_53 (by decide) ?_
  refine xr_callV X (xu_s _ _ _) rfl kw_1104 kw_1106 kw_29 cw_X12_number [.int 0, .int 5] (c_X12_number1 (hi := 5) (xu_s _ _ _) (xu_at (xn1 _ rfl) htape) hB ht hL (by omega) (by assumption)) rfl rfl rfl rfl rfl rfl rfl dX12_readPerson_54 ?_
  refine xr_heap (h' := (xu h m (.inr (11, [.int 0, .int st, .ref (m + 1), .ref (m + 2), .ref (m + 3), .ref (m + 4), .ref (m + 5), .ref (m + 6), .int ac, .ref (m + 7), .int 0, .int la, .int (nI L), .int (nI (tE t L (tE t L (tE t L q)))), .int (nI ((tK t L (tE t L (tE t L q)) + 1) % 5)), .int (nI (tS t L (tE t L (tE t L q)))), .int (nI (tE t L (tE t L (tE t L q)))), .int 1, .int (nI (tS t L (tE t L (tE t L q)))), .ref (m + 8), .ref (m + 9), .ref (m + 10), .ref (m + 11), .int tr])))) (xu_uu _ _ _ _) ?_
  refine xr_istore_n (lv' := [(2, .int (nI (nuv t L (tE t L (tE t L q))))), (1, .int (nI (kiW t L (tE t L q)))), (0, .ref m)]) X dX12_readPerson_57 rfl rfl rfl ?_
  refine xr_aload_n X 2 dX12_readPerson_58 rfl rfl ?_
  refine xr_iconst (v := 0) X dX12_readPerson_59 (by decide) ?_
  refine xr_bipush (v := 9) X dX12_readPerson_60 (by decide) ?_
  refine xr_callV X (xu_s _ _ _) rfl kw_1104 kw_1106 kw_29 cw_X12_number [.int 0, .int 9] (c_X12_numberF (hi := 9) (xu_s _ _ _) (by decide)) rfl rfl rfl rfl rfl rfl rfl dX12_readPerson_62 ?_
  refine xr_istore_n (lv' := [(3, .int 0), (2, .int (nI (nuv t L (tE t L (tE t L q))))), (1, .int (nI (kiW t L (tE t L q)))), (0, .ref m)]) X dX12_readPerson_65 rfl rfl rfl ?_
  refine xr_aload_n X 3 dX12_readPerson_66 rfl rfl ?_
  refine xr_get X fF_X12_102_11 (xu_s _ _ _) rfl dX12_readPerson_67 ?_
  refine xr_if_ne (tgt := 90) X dX12_readPerson_70 (by decide) (fun _ => ?_) (fun c_70 => absurd c_70 (by decide))
  refine xr_aload_n X 3 dX12_readPerson_90 rfl rfl ?_
  refine xr_get X fF_X12_102_11 (xu_s _ _ _) rfl dX12_readPerson_91 ?_
  refine xr_if_ne (tgt := 147) X dX12_readPerson_94 (by decide) (fun _ => ?_) (fun c_94 => absurd c_94 (by decide))
  exact xr_vret X rfl rfl rfl rfl rfl rfl dX12_readPerson_147
set_option maxRecDepth 100000 in
theorem c_X12_rp_w2 {l : Launch} {Ω : xW} {h : xH} {sz : Nat} {m : Nat} {st ac la fl tr : Int32} {tape fresh : Nat → Int32} {t : Nat → Nat} {L q n : Nat} (hm : h m = some (mO m st ac 0 la (nI L) (nI (tE t L q)) (nI ((tK t L q + 1) % 5)) (nI (tS t L q)) (nI (tE t L q)) 0 fl tr)) (hfresh : h (m + 5) = some (.inl (.int, 21, .inl fresh))) (htape : h (m + 7) = some (.inl (.int, 300, .inl tape))) (hB : ∀ q, q < L → tape q = nI (t q)) (ht : ∀ q, q < L → t q < 256) (hL : L ≤ 300) (hq : q ≤ L) (hw : wdP t L q wl_person = true) (hn : fresh 0 = nI n) (hn6 : n ≤ 6) (h6 : n < 6) (hk : ¬ kiW t L (tE t L q) = 0) (h2 : tK t L (tE t L (tE t L q)) = 2) (hv : 5 < nuv t L (tE t L (tE t L q))) : xC l Ω yX12_readPerson cX12_readPerson 5 none 4 0 0 [.ref m] h sz (none) (xu h m (.inr (11, [.int 0, .int st, .ref (m + 1), .ref (m + 2), .ref (m + 3), .ref (m + 4), .ref (m + 5), .ref (m + 6), .int ac, .ref (m + 7), .int 0, .int la, .int (nI L), .int (nI (tE t L (tE t L (tE t L q)))), .int (nI ((tK t L (tE t L (tE t L q)) + 1) % 5)), .int (nI (tS t L (tE t L (tE t L q)))), .int (nI (tE t L (tE t L (tE t L q)))), .int 2, .int (nI (tS t L (tE t L (tE t L q)))), .ref (m + 8), .ref (m + 9), .ref (m + 10), .ref (m + 11), .int tr]))) (sz) := by
  refine xC_of (lv := [(0, .ref m)]) pn_X12 rfl rfl (fun Γ X hΓ hbs => ?_)
  have X : xX Γ Ω cX12_readPerson 5 RX12 "readPerson" none 4 140 0 0 := X
  subst hΓ
  have r1 : (tE t L q) ≤ L := (tE_rng hq).2
  have r2 : (tE t L (tE t L q)) ≤ L := (tE_rng r1).2
  have r3 : (tE t L (tE t L (tE t L q))) ≤ L := (tE_rng r2).2
  have r4 : (tE t L (tE t L (tE t L (tE t L q)))) ≤ L := (tE_rng r3).2
  have n2 := nuv_lt t L (tE t L (tE t L q)) r2
  have n3 := nuv_lt t L (tE t L (tE t L (tE t L q))) r3
  have kw1 := kiW_le t L (tE t L q)
  have tk4 := tK_le t L (tE t L (tE t L (tE t L (tE t L q))))
  refine xr_aload_n X 0 dX12_readPerson_0 rfl rfl ?_
  refine xr_get X fF_X12_22_11 hm rfl dX12_readPerson_1 ?_
  refine xr_iconst (v := 0) X dX12_readPerson_4 (by decide) ?_
  refine xr_iald (j := 0) X hfresh (xI_e (by decide) (by omega) (by omega)) dX12_readPerson_5 ?_
  refine xr_top (y := (nI n)) hn ?_
  refine xr_bipush (v := 6) X dX12_readPerson_6 (by decide) ?_
  refine xr_icmp_ne (tgt := 16) X dX12_readPerson_8 (by decide) (fun _ => ?_) (fun c_8 => absurd c_8 (by rw [i32_eq, nI_toInt (by omega), k32_6]; omega))
  refine xr_aload_n X 0 dX12_readPerson_16 rfl rfl ?_
  refine xr_iconst (v := 1) X dX12_readPerson_17 (by decide) ?_
  refine xr_callV X hm rfl kw_1092 kw_1094 kw_28 cw_X12_must [.int 1] (c_X12_must hm htape hB ht hL (by omega)) rfl rfl rfl rfl rfl rfl rfl dX12_readPerson_18 ?_
  refine xr_aload_n X 0 dX12_readPerson_21 rfl rfl ?_
  refine xr_callV X (xu_s _ _ _) rfl kw_1079 kw_1081 kw_25 cw_X12_name [] (c_X12_name (xu_s _ _ _) (xu_at (xn1 _ rfl) htape) hB ht hL (by omega)) rfl rfl rfl rfl rfl rfl rfl dX12_readPerson_22 ?_
  refine xr_callS X kw_1096 kw_1097 cw_X12_kindBy [.long (if (0 : Int32) = 0 then Int64.ofNat (nmv t L (tE t L q)) else 0)] c_X12_kindBy rfl rfl rfl rfl rfl rfl rfl dX12_readPerson_25 ?_
  refine xr_top (y := (nI (kiW t L (tE t L q)))) (by rw [if_pos rfl, nmv_i r1 ht, kdB_e r1, if_neg hk]) ?_
  refine xr_istore_n (lv' := [(1, .int (nI (kiW t L (tE t L q)))), (0, .ref m)]) X dX12_readPerson_28 rfl rfl rfl ?_
  refine xr_aload_n X 1 dX12_readPerson_29 rfl rfl ?_
  refine xr_get X fF_X12_102_11 (xu_s _ _ _) rfl dX12_readPerson_30 ?_
  refine xr_if_ne (tgt := 51) X dX12_readPerson_33 (by decide) (fun c_33 => absurd (by decide) c_33) (fun _ => ?_)
  refine xr_aload_n X 1 dX12_readPerson_36 rfl rfl ?_
  refine xr_iload_n X 0 dX12_readPerson_37 rfl rfl ?_
  refine xr_ldc (v := (-1000000)) X kw_1072 dX12_readPerson_38 ?_
  refine xr_icmp_eq (tgt := 47) X dX12_readPerson_40 (by decide) (fun c_40 => absurd c_40 (by rw [i32_eq, nI_toInt (by omega), k32_m1000000]; omega)) (fun _ => ?_)
  refine xr_iconst (v := 1) X dX12_readPerson_43 (by decide) ?_
  refine xr_goto (tgt := 48) X dX12_readPerson_44 (by decide) ?_
  refine xr_callV X (xu_s _ _ _) rfl kw_1092 kw_1094 kw_28 cw_X12_must [.int 1] (c_X12_must (xu_s _ _ _) (xu_at (xn1 _ rfl) htape) hB ht hL (by omega)) rfl rfl rfl rfl rfl rfl rfl dX12_readPerson_48 ?_
  refine xr_heap (h' := (xu h m (.inr (11, [.int 0, .int st, .ref (m + 1), .ref (m + 2), .ref (m + 3), .ref (m + 4), .ref (m + 5), .ref (m + 6), .int ac, .ref (m + 7), .int 0, .int la, .int (nI L), .int (nI (tE t L (tE t L (tE t L q)))), .int (nI ((tK t L (tE t L (tE t L q)) + 1) % 5)), .int (nI (tS t L (tE t L (tE t L q)))), .int (nI (tE t L (tE t L (tE t L q)))), .int 0, .int fl, .ref (m + 8), .ref (m + 9), .ref (m + 10), .ref (m + 11), .int tr])))) (xu_uu _ _ _ _) ?_
  refine xr_aload_n X 1 dX12_readPerson_51 rfl rfl ?_
  refine xr_iconst (v := 0) X dX12_readPerson_52 (by decide) ?_
  refine xr_iconst (v := 5) X dX12_readPerson_53 (by decide) ?_
  refine xr_callV X (xu_s _ _ _) rfl kw_1104 kw_1106 kw_29 cw_X12_number [.int 0, .int 5] (c_X12_number2 (hi := 5) (xu_s _ _ _) (xu_at (xn1 _ rfl) htape) hB ht hL (by omega) (by assumption) (by omega) (by omega)) rfl rfl rfl rfl rfl rfl rfl dX12_readPerson_54 ?_
  refine xr_heap (h' := (xu h m (.inr (11, [.int 0, .int st, .ref (m + 1), .ref (m + 2), .ref (m + 3), .ref (m + 4), .ref (m + 5), .ref (m + 6), .int ac, .ref (m + 7), .int 0, .int la, .int (nI L), .int (nI (tE t L (tE t L (tE t L q)))), .int (nI ((tK t L (tE t L (tE t L q)) + 1) % 5)), .int (nI (tS t L (tE t L (tE t L q)))), .int (nI (tE t L (tE t L (tE t L q)))), .int 2, .int (nI (tS t L (tE t L (tE t L q)))), .ref (m + 8), .ref (m + 9), .ref (m + 10), .ref (m + 11), .int tr])))) (xu_uu _ _ _ _) ?_
  refine xr_istore_n (lv' := [(2, .int (nI (nuv t L (tE t L (tE t L q))))), (1, .int (nI (kiW t L (tE t L q)))), (0, .ref m)]) X dX12_readPerson_57 rfl rfl rfl ?_
  refine xr_aload_n X 2 dX12_readPerson_58 rfl rfl ?_
  refine xr_iconst (v := 0) X dX12_readPerson_59 (by decide) ?_
  refine xr_bipush (v := 9) X dX12_readPerson_60 (by decide) ?_
  refine xr_callV X (xu_s _ _ _) rfl kw_1104 kw_1106 kw_29 cw_X12_number [.int 0, .int 9] (c_X12_numberF (hi := 9) (xu_s _ _ _) (by decide)) rfl rfl rfl rfl rfl rfl rfl dX12_readPerson_62 ?_
  refine xr_istore_n (lv' := [(3, .int 0), (2, .int (nI (nuv t L (tE t L (tE t L q))))), (1, .int (nI (kiW t L (tE t L q)))), (0, .ref m)]) X dX12_readPerson_65 rfl rfl rfl ?_
  refine xr_aload_n X 3 dX12_readPerson_66 rfl rfl ?_
  refine xr_get X fF_X12_102_11 (xu_s _ _ _) rfl dX12_readPerson_67 ?_
  refine xr_if_ne (tgt := 90) X dX12_readPerson_70 (by decide) (fun _ => ?_) (fun c_70 => absurd c_70 (by decide))
  refine xr_aload_n X 3 dX12_readPerson_90 rfl rfl ?_
  refine xr_get X fF_X12_102_11 (xu_s _ _ _) rfl dX12_readPerson_91 ?_
  refine xr_if_ne (tgt := 147) X dX12_readPerson_94 (by decide) (fun _ => ?_) (fun c_94 => absurd c_94 (by decide))
  exact xr_vret X rfl rfl rfl rfl rfl rfl dX12_readPerson_147
set_option maxRecDepth 100000 in
theorem c_X12_rp_m1 {l : Launch} {Ω : xW} {h : xH} {sz : Nat} {m : Nat} {st ac la fl tr : Int32} {tape fresh : Nat → Int32} {t : Nat → Nat} {L q n : Nat} (hm : h m = some (mO m st ac 0 la (nI L) (nI (tE t L q)) (nI ((tK t L q + 1) % 5)) (nI (tS t L q)) (nI (tE t L q)) 0 fl tr)) (hfresh : h (m + 5) = some (.inl (.int, 21, .inl fresh))) (htape : h (m + 7) = some (.inl (.int, 300, .inl tape))) (hB : ∀ q, q < L → tape q = nI (t q)) (ht : ∀ q, q < L → t q < 256) (hL : L ≤ 300) (hq : q ≤ L) (hw : wdP t L q wl_person = true) (hn : fresh 0 = nI n) (hn6 : n ≤ 6) (h6 : n < 6) (hk : ¬ kiW t L (tE t L q) = 0) (h2 : tK t L (tE t L (tE t L q)) = 2) (hv : nuv t L (tE t L (tE t L q)) ≤ 5) (h3 : ¬ tK t L (tE t L (tE t L (tE t L q))) = 2) : xC l Ω yX12_readPerson cX12_readPerson 5 none 4 0 0 [.ref m] h sz (none) (xu h m (.inr (11, [.int 0, .int st, .ref (m + 1), .ref (m + 2), .ref (m + 3), .ref (m + 4), .ref (m + 5), .ref (m + 6), .int ac, .ref (m + 7), .int 0, .int la, .int (nI L), .int (nI (tE t L (tE t L (tE t L (tE t L q))))), .int (nI ((tK t L (tE t L (tE t L (tE t L q))) + 1) % 5)), .int (nI (tS t L (tE t L (tE t L (tE t L q))))), .int (nI (tE t L (tE t L (tE t L (tE t L q))))), .int 1, .int (nI (tS t L (tE t L (tE t L (tE t L q))))), .ref (m + 8), .ref (m + 9), .ref (m + 10), .ref (m + 11), .int tr]))) (sz) := by
  refine xC_of (lv := [(0, .ref m)]) pn_X12 rfl rfl (fun Γ X hΓ hbs => ?_)
  have X : xX Γ Ω cX12_readPerson 5 RX12 "readPerson" none 4 140 0 0 := X
  subst hΓ
  have r1 : (tE t L q) ≤ L := (tE_rng hq).2
  have r2 : (tE t L (tE t L q)) ≤ L := (tE_rng r1).2
  have r3 : (tE t L (tE t L (tE t L q))) ≤ L := (tE_rng r2).2
  have r4 : (tE t L (tE t L (tE t L (tE t L q)))) ≤ L := (tE_rng r3).2
  have n2 := nuv_lt t L (tE t L (tE t L q)) r2
  have n3 := nuv_lt t L (tE t L (tE t L (tE t L q))) r3
  have kw1 := kiW_le t L (tE t L q)
  have tk4 := tK_le t L (tE t L (tE t L (tE t L (tE t L q))))
  refine xr_aload_n X 0 dX12_readPerson_0 rfl rfl ?_
  refine xr_get X fF_X12_22_11 hm rfl dX12_readPerson_1 ?_
  refine xr_iconst (v := 0) X dX12_readPerson_4 (by decide) ?_
  refine xr_iald (j := 0) X hfresh (xI_e (by decide) (by omega) (by omega)) dX12_readPerson_5 ?_
  refine xr_top (y := (nI n)) hn ?_
  refine xr_bipush (v := 6) X dX12_readPerson_6 (by decide) ?_
  refine xr_icmp_ne (tgt := 16) X dX12_readPerson_8 (by decide) (fun _ => ?_) (fun c_8 => absurd c_8 (by rw [i32_eq, nI_toInt (by omega), k32_6]; omega))
  refine xr_aload_n X 0 dX12_readPerson_16 rfl rfl ?_
  refine xr_iconst (v := 1) X dX12_readPerson_17 (by decide) ?_
  refine xr_callV X hm rfl kw_1092 kw_1094 kw_28 cw_X12_must [.int 1] (c_X12_must hm htape hB ht hL (by omega)) rfl rfl rfl rfl rfl rfl rfl dX12_readPerson_18 ?_
  refine xr_aload_n X 0 dX12_readPerson_21 rfl rfl ?_
  refine xr_callV X (xu_s _ _ _) rfl kw_1079 kw_1081 kw_25 cw_X12_name [] (c_X12_name (xu_s _ _ _) (xu_at (xn1 _ rfl) htape) hB ht hL (by omega)) rfl rfl rfl rfl rfl rfl rfl dX12_readPerson_22 ?_
  refine xr_callS X kw_1096 kw_1097 cw_X12_kindBy [.long (if (0 : Int32) = 0 then Int64.ofNat (nmv t L (tE t L q)) else 0)] c_X12_kindBy rfl rfl rfl rfl rfl rfl rfl dX12_readPerson_25 ?_
  refine xr_top (y := (nI (kiW t L (tE t L q)))) (by rw [if_pos rfl, nmv_i r1 ht, kdB_e r1, if_neg hk]) ?_
  refine xr_istore_n (lv' := [(1, .int (nI (kiW t L (tE t L q)))), (0, .ref m)]) X dX12_readPerson_28 rfl rfl rfl ?_
  refine xr_aload_n X 1 dX12_readPerson_29 rfl rfl ?_
  refine xr_get X fF_X12_102_11 (xu_s _ _ _) rfl dX12_readPerson_30 ?_
  refine xr_if_ne (tgt := 51) X dX12_readPerson_33 (by decide) (fun c_33 => absurd (by decide) c_33) (fun _ => ?_)
  refine xr_aload_n X 1 dX12_readPerson_36 rfl rfl ?_
  refine xr_iload_n X 0 dX12_readPerson_37 rfl rfl ?_
  refine xr_ldc (v := (-1000000)) X kw_1072 dX12_readPerson_38 ?_
  refine xr_icmp_eq (tgt := 47) X dX12_readPerson_40 (by decide) (fun c_40 => absurd c_40 (by rw [i32_eq, nI_toInt (by omega), k32_m1000000]; omega)) (fun _ => ?_)
  refine xr_iconst (v := 1) X dX12_readPerson_43 (by decide) ?_
  refine xr_goto (tgt := 48) X dX12_readPerson_44 (by decide) ?_
  refine xr_callV X (xu_s _ _ _) rfl kw_1092 kw_1094 kw_28 cw_X12_must [.int 1] (c_X12_must (xu_s _ _ _) (xu_at (xn1 _ rfl) htape) hB ht hL (by omega)) rfl rfl rfl rfl rfl rfl rfl dX12_readPerson_48 ?_
  refine xr_heap (h' := (xu h m (.inr (11, [.int 0, .int st, .ref (m + 1), .ref (m + 2), .ref (m + 3), .ref (m + 4), .ref (m + 5), .ref (m + 6), .int ac, .ref (m + 7), .int 0, .int la, .int (nI L), .int (nI (tE t L (tE t L (tE t L q)))), .int (nI ((tK t L (tE t L (tE t L q)) + 1) % 5)), .int (nI (tS t L (tE t L (tE t L q)))), .int (nI (tE t L (tE t L (tE t L q)))), .int 0, .int fl, .ref (m + 8), .ref (m + 9), .ref (m + 10), .ref (m + 11), .int tr])))) (xu_uu _ _ _ _) ?_
  refine xr_aload_n X 1 dX12_readPerson_51 rfl rfl ?_
  refine xr_iconst (v := 0) X dX12_readPerson_52 (by decide) ?_
  refine xr_iconst (v := 5) X dX12_readPerson_53 (by decide) ?_
  refine xr_callV X (xu_s _ _ _) rfl kw_1104 kw_1106 kw_29 cw_X12_number [.int 0, .int 5] (c_X12_number (hi := 5) (xu_s _ _ _) (xu_at (xn1 _ rfl) htape) hB ht hL (by omega) (by assumption) (by assumption) (by omega)) rfl rfl rfl rfl rfl rfl rfl dX12_readPerson_54 ?_
  refine xr_heap (h' := (xu h m (.inr (11, [.int 0, .int st, .ref (m + 1), .ref (m + 2), .ref (m + 3), .ref (m + 4), .ref (m + 5), .ref (m + 6), .int ac, .ref (m + 7), .int 0, .int la, .int (nI L), .int (nI (tE t L (tE t L (tE t L (tE t L q))))), .int (nI ((tK t L (tE t L (tE t L (tE t L q))) + 1) % 5)), .int (nI (tS t L (tE t L (tE t L (tE t L q))))), .int (nI (tE t L (tE t L (tE t L (tE t L q))))), .int 0, .int fl, .ref (m + 8), .ref (m + 9), .ref (m + 10), .ref (m + 11), .int tr])))) (xu_uu _ _ _ _) ?_
  refine xr_istore_n (lv' := [(2, .int (nI (nuv t L (tE t L (tE t L q))))), (1, .int (nI (kiW t L (tE t L q)))), (0, .ref m)]) X dX12_readPerson_57 rfl rfl rfl ?_
  refine xr_aload_n X 2 dX12_readPerson_58 rfl rfl ?_
  refine xr_iconst (v := 0) X dX12_readPerson_59 (by decide) ?_
  refine xr_bipush (v := 9) X dX12_readPerson_60 (by decide) ?_
  refine xr_callV X (xu_s _ _ _) rfl kw_1104 kw_1106 kw_29 cw_X12_number [.int 0, .int 9] (c_X12_number1 (hi := 9) (xu_s _ _ _) (xu_at (xn1 _ rfl) htape) hB ht hL (by omega) (by assumption)) rfl rfl rfl rfl rfl rfl rfl dX12_readPerson_62 ?_
  refine xr_heap (h' := (xu h m (.inr (11, [.int 0, .int st, .ref (m + 1), .ref (m + 2), .ref (m + 3), .ref (m + 4), .ref (m + 5), .ref (m + 6), .int ac, .ref (m + 7), .int 0, .int la, .int (nI L), .int (nI (tE t L (tE t L (tE t L (tE t L q))))), .int (nI ((tK t L (tE t L (tE t L (tE t L q))) + 1) % 5)), .int (nI (tS t L (tE t L (tE t L (tE t L q))))), .int (nI (tE t L (tE t L (tE t L (tE t L q))))), .int 1, .int (nI (tS t L (tE t L (tE t L (tE t L q))))), .ref (m + 8), .ref (m + 9), .ref (m + 10), .ref (m + 11), .int tr])))) (xu_uu _ _ _ _) ?_
  refine xr_istore_n (lv' := [(3, .int (nI (nuv t L (tE t L (tE t L (tE t L q)))))), (2, .int (nI (nuv t L (tE t L (tE t L q))))), (1, .int (nI (kiW t L (tE t L q)))), (0, .ref m)]) X dX12_readPerson_65 rfl rfl rfl ?_
  refine xr_aload_n X 3 dX12_readPerson_66 rfl rfl ?_
  refine xr_get X fF_X12_102_11 (xu_s _ _ _) rfl dX12_readPerson_67 ?_
  refine xr_if_ne (tgt := 90) X dX12_readPerson_70 (by decide) (fun _ => ?_) (fun c_70 => absurd c_70 (by decide))
  refine xr_aload_n X 3 dX12_readPerson_90 rfl rfl ?_
  refine xr_get X fF_X12_102_11 (xu_s _ _ _) rfl dX12_readPerson_91 ?_
  refine xr_if_ne (tgt := 147) X dX12_readPerson_94 (by decide) (fun _ => ?_) (fun c_94 => absurd c_94 (by decide))
  exact xr_vret X rfl rfl rfl rfl rfl rfl dX12_readPerson_147
set_option maxRecDepth 100000 in
theorem c_X12_rp_m2 {l : Launch} {Ω : xW} {h : xH} {sz : Nat} {m : Nat} {st ac la fl tr : Int32} {tape fresh : Nat → Int32} {t : Nat → Nat} {L q n : Nat} (hm : h m = some (mO m st ac 0 la (nI L) (nI (tE t L q)) (nI ((tK t L q + 1) % 5)) (nI (tS t L q)) (nI (tE t L q)) 0 fl tr)) (hfresh : h (m + 5) = some (.inl (.int, 21, .inl fresh))) (htape : h (m + 7) = some (.inl (.int, 300, .inl tape))) (hB : ∀ q, q < L → tape q = nI (t q)) (ht : ∀ q, q < L → t q < 256) (hL : L ≤ 300) (hq : q ≤ L) (hw : wdP t L q wl_person = true) (hn : fresh 0 = nI n) (hn6 : n ≤ 6) (h6 : n < 6) (hk : ¬ kiW t L (tE t L q) = 0) (h2 : tK t L (tE t L (tE t L q)) = 2) (hv : nuv t L (tE t L (tE t L q)) ≤ 5) (h3 : tK t L (tE t L (tE t L (tE t L q))) = 2) (hu : 9 < nuv t L (tE t L (tE t L (tE t L q)))) : xC l Ω yX12_readPerson cX12_readPerson 5 none 4 0 0 [.ref m] h sz (none) (xu h m (.inr (11, [.int 0, .int st, .ref (m + 1), .ref (m + 2), .ref (m + 3), .ref (m + 4), .ref (m + 5), .ref (m + 6), .int ac, .ref (m + 7), .int 0, .int la, .int (nI L), .int (nI (tE t L (tE t L (tE t L (tE t L q))))), .int (nI ((tK t L (tE t L (tE t L (tE t L q))) + 1) % 5)), .int (nI (tS t L (tE t L (tE t L (tE t L q))))), .int (nI (tE t L (tE t L (tE t L (tE t L q))))), .int 2, .int (nI (tS t L (tE t L (tE t L (tE t L q))))), .ref (m + 8), .ref (m + 9), .ref (m + 10), .ref (m + 11), .int tr]))) (sz) := by
  refine xC_of (lv := [(0, .ref m)]) pn_X12 rfl rfl (fun Γ X hΓ hbs => ?_)
  have X : xX Γ Ω cX12_readPerson 5 RX12 "readPerson" none 4 140 0 0 := X
  subst hΓ
  have r1 : (tE t L q) ≤ L := (tE_rng hq).2
  have r2 : (tE t L (tE t L q)) ≤ L := (tE_rng r1).2
  have r3 : (tE t L (tE t L (tE t L q))) ≤ L := (tE_rng r2).2
  have r4 : (tE t L (tE t L (tE t L (tE t L q)))) ≤ L := (tE_rng r3).2
  have n2 := nuv_lt t L (tE t L (tE t L q)) r2
  have n3 := nuv_lt t L (tE t L (tE t L (tE t L q))) r3
  have kw1 := kiW_le t L (tE t L q)
  have tk4 := tK_le t L (tE t L (tE t L (tE t L (tE t L q))))
  refine xr_aload_n X 0 dX12_readPerson_0 rfl rfl ?_
  refine xr_get X fF_X12_22_11 hm rfl dX12_readPerson_1 ?_
  refine xr_iconst (v := 0) X dX12_readPerson_4 (by decide) ?_
  refine xr_iald (j := 0) X hfresh (xI_e (by decide) (by omega) (by omega)) dX12_readPerson_5 ?_
  refine xr_top (y := (nI n)) hn ?_
  refine xr_bipush (v := 6) X dX12_readPerson_6 (by decide) ?_
  refine xr_icmp_ne (tgt := 16) X dX12_readPerson_8 (by decide) (fun _ => ?_) (fun c_8 => absurd c_8 (by rw [i32_eq, nI_toInt (by omega), k32_6]; omega))
  refine xr_aload_n X 0 dX12_readPerson_16 rfl rfl ?_
  refine xr_iconst (v := 1) X dX12_readPerson_17 (by decide) ?_
  refine xr_callV X hm rfl kw_1092 kw_1094 kw_28 cw_X12_must [.int 1] (c_X12_must hm htape hB ht hL (by omega)) rfl rfl rfl rfl rfl rfl rfl dX12_readPerson_18 ?_
  refine xr_aload_n X 0 dX12_readPerson_21 rfl rfl ?_
  refine xr_callV X (xu_s _ _ _) rfl kw_1079 kw_1081 kw_25 cw_X12_name [] (c_X12_name (xu_s _ _ _) (xu_at (xn1 _ rfl) htape) hB ht hL (by omega)) rfl rfl rfl rfl rfl rfl rfl dX12_readPerson_22 ?_
  refine xr_callS X kw_1096 kw_1097 cw_X12_kindBy [.long (if (0 : Int32) = 0 then Int64.ofNat (nmv t L (tE t L q)) else 0)] c_X12_kindBy rfl rfl rfl rfl rfl rfl rfl dX12_readPerson_25 ?_
  refine xr_top (y := (nI (kiW t L (tE t L q)))) (by rw [if_pos rfl, nmv_i r1 ht, kdB_e r1, if_neg hk]) ?_
  refine xr_istore_n (lv' := [(1, .int (nI (kiW t L (tE t L q)))), (0, .ref m)]) X dX12_readPerson_28 rfl rfl rfl ?_
  refine xr_aload_n X 1 dX12_readPerson_29 rfl rfl ?_
  refine xr_get X fF_X12_102_11 (xu_s _ _ _) rfl dX12_readPerson_30 ?_
  refine xr_if_ne (tgt := 51) X dX12_readPerson_33 (by decide) (fun c_33 => absurd (by decide) c_33) (fun _ => ?_)
  refine xr_aload_n X 1 dX12_readPerson_36 rfl rfl ?_
  refine xr_iload_n X 0 dX12_readPerson_37 rfl rfl ?_
  refine xr_ldc (v := (-1000000)) X kw_1072 dX12_readPerson_38 ?_
  refine xr_icmp_eq (tgt := 47) X dX12_readPerson_40 (by decide) (fun c_40 => absurd c_40 (by rw [i32_eq, nI_toInt (by omega), k32_m1000000]; omega)) (fun _ => ?_)
  refine xr_iconst (v := 1) X dX12_readPerson_43 (by decide) ?_
  refine xr_goto (tgt := 48) X dX12_readPerson_44 (by decide) ?_
  refine xr_callV X (xu_s _ _ _) rfl kw_1092 kw_1094 kw_28 cw_X12_must [.int 1] (c_X12_must (xu_s _ _ _) (xu_at (xn1 _ rfl) htape) hB ht hL (by omega)) rfl rfl rfl rfl rfl rfl rfl dX12_readPerson_48 ?_
  refine xr_heap (h' := (xu h m (.inr (11, [.int 0, .int st, .ref (m + 1), .ref (m + 2), .ref (m + 3), .ref (m + 4), .ref (m + 5), .ref (m + 6), .int ac, .ref (m + 7), .int 0, .int la, .int (nI L), .int (nI (tE t L (tE t L (tE t L q)))), .int (nI ((tK t L (tE t L (tE t L q)) + 1) % 5)), .int (nI (tS t L (tE t L (tE t L q)))), .int (nI (tE t L (tE t L (tE t L q)))), .int 0, .int fl, .ref (m + 8), .ref (m + 9), .ref (m + 10), .ref (m + 11), .int tr])))) (xu_uu _ _ _ _) ?_
  refine xr_aload_n X 1 dX12_readPerson_51 rfl rfl ?_
  refine xr_iconst (v := 0) X dX12_readPerson_52 (by decide) ?_
  refine xr_iconst (v := 5) X dX12_readPerson_53 (by decide) ?_
  refine xr_callV X (xu_s _ _ _) rfl kw_1104 kw_1106 kw_29 cw_X12_number [.int 0, .int 5] (c_X12_number (hi := 5) (xu_s _ _ _) (xu_at (xn1 _ rfl) htape) hB ht hL (by omega) (by assumption) (by assumption) (by omega)) rfl rfl rfl rfl rfl rfl rfl dX12_readPerson_54 ?_
  refine xr_heap (h' := (xu h m (.inr (11, [.int 0, .int st, .ref (m + 1), .ref (m + 2), .ref (m + 3), .ref (m + 4), .ref (m + 5), .ref (m + 6), .int ac, .ref (m + 7), .int 0, .int la, .int (nI L), .int (nI (tE t L (tE t L (tE t L (tE t L q))))), .int (nI ((tK t L (tE t L (tE t L (tE t L q))) + 1) % 5)), .int (nI (tS t L (tE t L (tE t L (tE t L q))))), .int (nI (tE t L (tE t L (tE t L (tE t L q))))), .int 0, .int fl, .ref (m + 8), .ref (m + 9), .ref (m + 10), .ref (m + 11), .int tr])))) (xu_uu _ _ _ _) ?_
  refine xr_istore_n (lv' := [(2, .int (nI (nuv t L (tE t L (tE t L q))))), (1, .int (nI (kiW t L (tE t L q)))), (0, .ref m)]) X dX12_readPerson_57 rfl rfl rfl ?_
  refine xr_aload_n X 2 dX12_readPerson_58 rfl rfl ?_
  refine xr_iconst (v := 0) X dX12_readPerson_59 (by decide) ?_
  refine xr_bipush (v := 9) X dX12_readPerson_60 (by decide) ?_
  refine xr_callV X (xu_s _ _ _) rfl kw_1104 kw_1106 kw_29 cw_X12_number [.int 0, .int 9] (c_X12_number2 (hi := 9) (xu_s _ _ _) (xu_at (xn1 _ rfl) htape) hB ht hL (by omega) (by assumption) (by omega) (by omega)) rfl rfl rfl rfl rfl rfl rfl dX12_readPerson_62 ?_
  refine xr_heap (h' := (xu h m (.inr (11, [.int 0, .int st, .ref (m + 1), .ref (m + 2), .ref (m + 3), .ref (m + 4), .ref (m + 5), .ref (m + 6), .int ac, .ref (m + 7), .int 0, .int la, .int (nI L), .int (nI (tE t L (tE t L (tE t L (tE t L q))))), .int (nI ((tK t L (tE t L (tE t L (tE t L q))) + 1) % 5)), .int (nI (tS t L (tE t L (tE t L (tE t L q))))), .int (nI (tE t L (tE t L (tE t L (tE t L q))))), .int 2, .int (nI (tS t L (tE t L (tE t L (tE t L q))))), .ref (m + 8), .ref (m + 9), .ref (m + 10), .ref (m + 11), .int tr])))) (xu_uu _ _ _ _) ?_
  refine xr_istore_n (lv' := [(3, .int (nI (nuv t L (tE t L (tE t L (tE t L q)))))), (2, .int (nI (nuv t L (tE t L (tE t L q))))), (1, .int (nI (kiW t L (tE t L q)))), (0, .ref m)]) X dX12_readPerson_65 rfl rfl rfl ?_
  refine xr_aload_n X 3 dX12_readPerson_66 rfl rfl ?_
  refine xr_get X fF_X12_102_11 (xu_s _ _ _) rfl dX12_readPerson_67 ?_
  refine xr_if_ne (tgt := 90) X dX12_readPerson_70 (by decide) (fun _ => ?_) (fun c_70 => absurd c_70 (by decide))
  refine xr_aload_n X 3 dX12_readPerson_90 rfl rfl ?_
  refine xr_get X fF_X12_102_11 (xu_s _ _ _) rfl dX12_readPerson_91 ?_
  refine xr_if_ne (tgt := 147) X dX12_readPerson_94 (by decide) (fun _ => ?_) (fun c_94 => absurd c_94 (by decide))
  exact xr_vret X rfl rfl rfl rfl rfl rfl dX12_readPerson_147
set_option maxRecDepth 100000 in
theorem c_X12_rp_s {l : Launch} {Ω : xW} {h : xH} {sz : Nat} {m : Nat} {st ac la fl tr : Int32} {tape fresh : Nat → Int32} {t : Nat → Nat} {L q n : Nat} (hm : h m = some (mO m st ac 0 la (nI L) (nI (tE t L q)) (nI ((tK t L q + 1) % 5)) (nI (tS t L q)) (nI (tE t L q)) 0 fl tr)) (hfresh : h (m + 5) = some (.inl (.int, 21, .inl fresh))) (htape : h (m + 7) = some (.inl (.int, 300, .inl tape))) (hB : ∀ q, q < L → tape q = nI (t q)) (ht : ∀ q, q < L → t q < 256) (hL : L ≤ 300) (hq : q ≤ L) (hw : wdP t L q wl_person = true) (hn : fresh 0 = nI n) (hn6 : n ≤ 6) (h6 : n < 6) (hk : ¬ kiW t L (tE t L q) = 0) (h2 : tK t L (tE t L (tE t L q)) = 2) (hv : nuv t L (tE t L (tE t L q)) ≤ 5) (h3 : tK t L (tE t L (tE t L (tE t L q))) = 2) (hu : nuv t L (tE t L (tE t L (tE t L q))) ≤ 9) (h4 : ¬ tK t L (tE t L (tE t L (tE t L (tE t L q)))) = 3) : xC l Ω yX12_readPerson cX12_readPerson 5 none 4 0 0 [.ref m] h sz (none) (xu h m (.inr (11, [.int 0, .int st, .ref (m + 1), .ref (m + 2), .ref (m + 3), .ref (m + 4), .ref (m + 5), .ref (m + 6), .int ac, .ref (m + 7), .int 0, .int la, .int (nI L), .int (nI (tE t L (tE t L (tE t L (tE t L (tE t L q)))))), .int (nI ((tK t L (tE t L (tE t L (tE t L (tE t L q)))) + 1) % 5)), .int (nI (tS t L (tE t L (tE t L (tE t L (tE t L q)))))), .int (nI (tE t L (tE t L (tE t L (tE t L (tE t L q)))))), .int 1, .int (nI (tS t L (tE t L (tE t L (tE t L (tE t L q)))))), .ref (m + 8), .ref (m + 9), .ref (m + 10), .ref (m + 11), .int tr]))) (sz) := by
  refine xC_of (lv := [(0, .ref m)]) pn_X12 rfl rfl (fun Γ X hΓ hbs => ?_)
  have X : xX Γ Ω cX12_readPerson 5 RX12 "readPerson" none 4 140 0 0 := X
  subst hΓ
  have r1 : (tE t L q) ≤ L := (tE_rng hq).2
  have r2 : (tE t L (tE t L q)) ≤ L := (tE_rng r1).2
  have r3 : (tE t L (tE t L (tE t L q))) ≤ L := (tE_rng r2).2
  have r4 : (tE t L (tE t L (tE t L (tE t L q)))) ≤ L := (tE_rng r3).2
  have n2 := nuv_lt t L (tE t L (tE t L q)) r2
  have n3 := nuv_lt t L (tE t L (tE t L (tE t L q))) r3
  have kw1 := kiW_le t L (tE t L q)
  have tk4 := tK_le t L (tE t L (tE t L (tE t L (tE t L q))))
  refine xr_aload_n X 0 dX12_readPerson_0 rfl rfl ?_
  refine xr_get X fF_X12_22_11 hm rfl dX12_readPerson_1 ?_
  refine xr_iconst (v := 0) X dX12_readPerson_4 (by decide) ?_
  refine xr_iald (j := 0) X hfresh (xI_e (by decide) (by omega) (by omega)) dX12_readPerson_5 ?_
  refine xr_top (y := (nI n)) hn ?_
  refine xr_bipush (v := 6) X dX12_readPerson_6 (by decide) ?_
  refine xr_icmp_ne (tgt := 16) X dX12_readPerson_8 (by decide) (fun _ => ?_) (fun c_8 => absurd c_8 (by rw [i32_eq, nI_toInt (by omega), k32_6]; omega))
  refine xr_aload_n X 0 dX12_readPerson_16 rfl rfl ?_
  refine xr_iconst (v := 1) X dX12_readPerson_17 (by decide) ?_
  refine xr_callV X hm rfl kw_1092 kw_1094 kw_28 cw_X12_must [.int 1] (c_X12_must hm htape hB ht hL (by omega)) rfl rfl rfl rfl rfl rfl rfl dX12_readPerson_18 ?_
  refine xr_aload_n X 0 dX12_readPerson_21 rfl rfl ?_
  refine xr_callV X (xu_s _ _ _) rfl kw_1079 kw_1081 kw_25 cw_X12_name [] (c_X12_name (xu_s _ _ _) (xu_at (xn1 _ rfl) htape) hB ht hL (by omega)) rfl rfl rfl rfl rfl rfl rfl dX12_readPerson_22 ?_
  refine xr_callS X kw_1096 kw_1097 cw_X12_kindBy [.long (if (0 : Int32) = 0 then Int64.ofNat (nmv t L (tE t L q)) else 0)] c_X12_kindBy rfl rfl rfl rfl rfl rfl rfl dX12_readPerson_25 ?_
  refine xr_top (y := (nI (kiW t L (tE t L q)))) (by rw [if_pos rfl, nmv_i r1 ht, kdB_e r1, if_neg hk]) ?_
  refine xr_istore_n (lv' := [(1, .int (nI (kiW t L (tE t L q)))), (0, .ref m)]) X dX12_readPerson_28 rfl rfl rfl ?_
  refine xr_aload_n X 1 dX12_readPerson_29 rfl rfl ?_
  refine xr_get X fF_X12_102_11 (xu_s _ _ _) rfl dX12_readPerson_30 ?_
  refine xr_if_ne (tgt := 51) X dX12_readPerson_33 (by decide) (fun c_33 => absurd (by decide) c_33) (fun _ => ?_)
  refine xr_aload_n X 1 dX12_readPerson_36 rfl rfl ?_
  refine xr_iload_n X 0 dX12_readPerson_37 rfl rfl ?_
  refine xr_ldc (v := (-1000000)) X kw_1072 dX12_readPerson_38 ?_
  refine xr_icmp_eq (tgt := 47) X dX12_readPerson_40 (by decide) (fun c_40 => absurd c_40 (by rw [i32_eq, nI_toInt (by omega), k32_m1000000]; omega)) (fun _ => ?_)
  refine xr_iconst (v := 1) X dX12_readPerson_43 (by decide) ?_
  refine xr_goto (tgt := 48) X dX12_readPerson_44 (by decide) ?_
  refine xr_callV X (xu_s _ _ _) rfl kw_1092 kw_1094 kw_28 cw_X12_must [.int 1] (c_X12_must (xu_s _ _ _) (xu_at (xn1 _ rfl) htape) hB ht hL (by omega)) rfl rfl rfl rfl rfl rfl rfl dX12_readPerson_48 ?_
  refine xr_heap (h' := (xu h m (.inr (11, [.int 0, .int st, .ref (m + 1), .ref (m + 2), .ref (m + 3), .ref (m + 4), .ref (m + 5), .ref (m + 6), .int ac, .ref (m + 7), .int 0, .int la, .int (nI L), .int (nI (tE t L (tE t L (tE t L q)))), .int (nI ((tK t L (tE t L (tE t L q)) + 1) % 5)), .int (nI (tS t L (tE t L (tE t L q)))), .int (nI (tE t L (tE t L (tE t L q)))), .int 0, .int fl, .ref (m + 8), .ref (m + 9), .ref (m + 10), .ref (m + 11), .int tr])))) (xu_uu _ _ _ _) ?_
  refine xr_aload_n X 1 dX12_readPerson_51 rfl rfl ?_
  refine xr_iconst (v := 0) X dX12_readPerson_52 (by decide) ?_
  refine xr_iconst (v := 5) X dX12_readPerson_53 (by decide) ?_
  refine xr_callV X (xu_s _ _ _) rfl kw_1104 kw_1106 kw_29 cw_X12_number [.int 0, .int 5] (c_X12_number (hi := 5) (xu_s _ _ _) (xu_at (xn1 _ rfl) htape) hB ht hL (by omega) (by assumption) (by assumption) (by omega)) rfl rfl rfl rfl rfl rfl rfl dX12_readPerson_54 ?_
  refine xr_heap (h' := (xu h m (.inr (11, [.int 0, .int st, .ref (m + 1), .ref (m + 2), .ref (m + 3), .ref (m + 4), .ref (m + 5), .ref (m + 6), .int ac, .ref (m + 7), .int 0, .int la, .int (nI L), .int (nI (tE t L (tE t L (tE t L (tE t L q))))), .int (nI ((tK t L (tE t L (tE t L (tE t L q))) + 1) % 5)), .int (nI (tS t L (tE t L (tE t L (tE t L q))))), .int (nI (tE t L (tE t L (tE t L (tE t L q))))), .int 0, .int fl, .ref (m + 8), .ref (m + 9), .ref (m + 10), .ref (m + 11), .int tr])))) (xu_uu _ _ _ _) ?_
  refine xr_istore_n (lv' := [(2, .int (nI (nuv t L (tE t L (tE t L q))))), (1, .int (nI (kiW t L (tE t L q)))), (0, .ref m)]) X dX12_readPerson_57 rfl rfl rfl ?_
  refine xr_aload_n X 2 dX12_readPerson_58 rfl rfl ?_
  refine xr_iconst (v := 0) X dX12_readPerson_59 (by decide) ?_
  refine xr_bipush (v := 9) X dX12_readPerson_60 (by decide) ?_
  refine xr_callV X (xu_s _ _ _) rfl kw_1104 kw_1106 kw_29 cw_X12_number [.int 0, .int 9] (c_X12_number (hi := 9) (xu_s _ _ _) (xu_at (xn1 _ rfl) htape) hB ht hL (by omega) (by assumption) (by assumption) (by omega)) rfl rfl rfl rfl rfl rfl rfl dX12_readPerson_62 ?_
  refine xr_heap (h' := (xu h m (.inr (11, [.int 0, .int st, .ref (m + 1), .ref (m + 2), .ref (m + 3), .ref (m + 4), .ref (m + 5), .ref (m + 6), .int ac, .ref (m + 7), .int 0, .int la, .int (nI L), .int (nI (tE t L (tE t L (tE t L (tE t L (tE t L q)))))), .int (nI ((tK t L (tE t L (tE t L (tE t L (tE t L q)))) + 1) % 5)), .int (nI (tS t L (tE t L (tE t L (tE t L (tE t L q)))))), .int (nI (tE t L (tE t L (tE t L (tE t L (tE t L q)))))), .int 0, .int fl, .ref (m + 8), .ref (m + 9), .ref (m + 10), .ref (m + 11), .int tr])))) (xu_uu _ _ _ _) ?_
  refine xr_istore_n (lv' := [(3, .int (nI (nuv t L (tE t L (tE t L (tE t L q)))))), (2, .int (nI (nuv t L (tE t L (tE t L q))))), (1, .int (nI (kiW t L (tE t L q)))), (0, .ref m)]) X dX12_readPerson_65 rfl rfl rfl ?_
  refine xr_aload_n X 3 dX12_readPerson_66 rfl rfl ?_
  refine xr_get X fF_X12_102_11 (xu_s _ _ _) rfl dX12_readPerson_67 ?_
  refine xr_if_ne (tgt := 90) X dX12_readPerson_70 (by decide) (fun c_70 => absurd (by decide) c_70) (fun _ => ?_)
  refine xr_aload_n X 3 dX12_readPerson_73 rfl rfl ?_
  refine xr_aload_n X 3 dX12_readPerson_74 rfl rfl ?_
  refine xr_get X fF_X12_90_11 (xu_s _ _ _) rfl dX12_readPerson_75 ?_
  refine xr_iconst (v := 4) X dX12_readPerson_78 (by decide) ?_
  refine xr_icmp_ne (tgt := 86) X dX12_readPerson_79 (by decide) (fun _ => ?_) (fun c_79 => absurd c_79 (by rw [i32_eq, nI_toInt (by omega), k32_4]; omega))
  refine xr_iconst (v := 0) X dX12_readPerson_86 (by decide) ?_
  refine xr_callV X (xu_s _ _ _) rfl kw_1092 kw_1094 kw_28 cw_X12_must [.int 0] (c_X12_must0 (xu_s _ _ _)) rfl rfl rfl rfl rfl rfl rfl dX12_readPerson_87 ?_
  refine xr_heap (h' := (xu h m (.inr (11, [.int 0, .int st, .ref (m + 1), .ref (m + 2), .ref (m + 3), .ref (m + 4), .ref (m + 5), .ref (m + 6), .int ac, .ref (m + 7), .int 0, .int la, .int (nI L), .int (nI (tE t L (tE t L (tE t L (tE t L (tE t L q)))))), .int (nI ((tK t L (tE t L (tE t L (tE t L (tE t L q)))) + 1) % 5)), .int (nI (tS t L (tE t L (tE t L (tE t L (tE t L q)))))), .int (nI (tE t L (tE t L (tE t L (tE t L (tE t L q)))))), .int 1, .int (nI (tS t L (tE t L (tE t L (tE t L (tE t L q)))))), .ref (m + 8), .ref (m + 9), .ref (m + 10), .ref (m + 11), .int tr])))) (xu_uu _ _ _ _) ?_
  refine xr_aload_n X 3 dX12_readPerson_90 rfl rfl ?_
  refine xr_get X fF_X12_102_11 (xu_s _ _ _) rfl dX12_readPerson_91 ?_
  refine xr_if_ne (tgt := 147) X dX12_readPerson_94 (by decide) (fun _ => ?_) (fun c_94 => absurd c_94 (by decide))
  exact xr_vret X rfl rfl rfl rfl rfl rfl dX12_readPerson_147
set_option maxRecDepth 100000 in
theorem c_X12_rp_ok {l : Launch} {Ω : xW} {h : xH} {sz : Nat} {m : Nat} {st ac la fl tr : Int32} {tape fresh : Nat → Int32} {t : Nat → Nat} {L q n : Nat} (hm : h m = some (mO m st ac 0 la (nI L) (nI (tE t L q)) (nI ((tK t L q + 1) % 5)) (nI (tS t L q)) (nI (tE t L q)) 0 fl tr)) (hfresh : h (m + 5) = some (.inl (.int, 21, .inl fresh))) (htape : h (m + 7) = some (.inl (.int, 300, .inl tape))) (hB : ∀ q, q < L → tape q = nI (t q)) (ht : ∀ q, q < L → t q < 256) (hL : L ≤ 300) (hq : q ≤ L) (hw : wdP t L q wl_person = true) (hn : fresh 0 = nI n) (hn6 : n ≤ 6) (h6 : n < 6) (hk : ¬ kiW t L (tE t L q) = 0) (h2 : tK t L (tE t L (tE t L q)) = 2) (hv : nuv t L (tE t L (tE t L q)) ≤ 5) (h3 : tK t L (tE t L (tE t L (tE t L q))) = 2) (hu : nuv t L (tE t L (tE t L (tE t L q))) ≤ 9) (h4 : tK t L (tE t L (tE t L (tE t L (tE t L q)))) = 3) : xC l Ω yX12_readPerson cX12_readPerson 5 none 4 0 0 [.ref m] h sz (none) (xu (xu h m (.inr (11, [.int 0, .int st, .ref (m + 1), .ref (m + 2), .ref (m + 3), .ref (m + 4), .ref (m + 5), .ref (m + 6), .int ac, .ref (m + 7), .int 0, .int la, .int (nI L), .int (nI (tE t L (tE t L (tE t L (tE t L (tE t L (tE t L q))))))), .int (nI ((tK t L (tE t L (tE t L (tE t L (tE t L (tE t L q))))) + 1) % 5)), .int (nI (tS t L (tE t L (tE t L (tE t L (tE t L (tE t L q))))))), .int (nI (tE t L (tE t L (tE t L (tE t L (tE t L (tE t L q))))))), .int 0, .int fl, .ref (m + 8), .ref (m + 9), .ref (m + 10), .ref (m + 11), .int tr]))) (m + 5) (.inl (.int, 21, .inl (upd (upd (upd (upd fresh (3 + 3 * n) (nI (kiW t L (tE t L q)))) (3 + 3 * n + 1) (nI (nuv t L (tE t L (tE t L q))))) (3 + 3 * n + 2) (nI (nuv t L (tE t L (tE t L (tE t L q)))))) 0 (nI (n + 1)))))) (sz) := by
  refine xC_of (lv := [(0, .ref m)]) pn_X12 rfl rfl (fun Γ X hΓ hbs => ?_)
  have X : xX Γ Ω cX12_readPerson 5 RX12 "readPerson" none 4 140 0 0 := X
  subst hΓ
  have r1 : (tE t L q) ≤ L := (tE_rng hq).2
  have r2 : (tE t L (tE t L q)) ≤ L := (tE_rng r1).2
  have r3 : (tE t L (tE t L (tE t L q))) ≤ L := (tE_rng r2).2
  have r4 : (tE t L (tE t L (tE t L (tE t L q)))) ≤ L := (tE_rng r3).2
  have n2 := nuv_lt t L (tE t L (tE t L q)) r2
  have n3 := nuv_lt t L (tE t L (tE t L (tE t L q))) r3
  have kw1 := kiW_le t L (tE t L q)
  have tk4 := tK_le t L (tE t L (tE t L (tE t L (tE t L q))))
  refine xr_aload_n X 0 dX12_readPerson_0 rfl rfl ?_
  refine xr_get X fF_X12_22_11 hm rfl dX12_readPerson_1 ?_
  refine xr_iconst (v := 0) X dX12_readPerson_4 (by decide) ?_
  refine xr_iald (j := 0) X hfresh (xI_e (by decide) (by omega) (by omega)) dX12_readPerson_5 ?_
  refine xr_top (y := (nI n)) hn ?_
  refine xr_bipush (v := 6) X dX12_readPerson_6 (by decide) ?_
  refine xr_icmp_ne (tgt := 16) X dX12_readPerson_8 (by decide) (fun _ => ?_) (fun c_8 => absurd c_8 (by rw [i32_eq, nI_toInt (by omega), k32_6]; omega))
  refine xr_aload_n X 0 dX12_readPerson_16 rfl rfl ?_
  refine xr_iconst (v := 1) X dX12_readPerson_17 (by decide) ?_
  refine xr_callV X hm rfl kw_1092 kw_1094 kw_28 cw_X12_must [.int 1] (c_X12_must hm htape hB ht hL (by omega)) rfl rfl rfl rfl rfl rfl rfl dX12_readPerson_18 ?_
  refine xr_aload_n X 0 dX12_readPerson_21 rfl rfl ?_
  refine xr_callV X (xu_s _ _ _) rfl kw_1079 kw_1081 kw_25 cw_X12_name [] (c_X12_name (xu_s _ _ _) (xu_at (xn1 _ rfl) htape) hB ht hL (by omega)) rfl rfl rfl rfl rfl rfl rfl dX12_readPerson_22 ?_
  refine xr_callS X kw_1096 kw_1097 cw_X12_kindBy [.long (if (0 : Int32) = 0 then Int64.ofNat (nmv t L (tE t L q)) else 0)] c_X12_kindBy rfl rfl rfl rfl rfl rfl rfl dX12_readPerson_25 ?_
  refine xr_top (y := (nI (kiW t L (tE t L q)))) (by rw [if_pos rfl, nmv_i r1 ht, kdB_e r1, if_neg hk]) ?_
  refine xr_istore_n (lv' := [(1, .int (nI (kiW t L (tE t L q)))), (0, .ref m)]) X dX12_readPerson_28 rfl rfl rfl ?_
  refine xr_aload_n X 1 dX12_readPerson_29 rfl rfl ?_
  refine xr_get X fF_X12_102_11 (xu_s _ _ _) rfl dX12_readPerson_30 ?_
  refine xr_if_ne (tgt := 51) X dX12_readPerson_33 (by decide) (fun c_33 => absurd (by decide) c_33) (fun _ => ?_)
  refine xr_aload_n X 1 dX12_readPerson_36 rfl rfl ?_
  refine xr_iload_n X 0 dX12_readPerson_37 rfl rfl ?_
  refine xr_ldc (v := (-1000000)) X kw_1072 dX12_readPerson_38 ?_
  refine xr_icmp_eq (tgt := 47) X dX12_readPerson_40 (by decide) (fun c_40 => absurd c_40 (by rw [i32_eq, nI_toInt (by omega), k32_m1000000]; omega)) (fun _ => ?_)
  refine xr_iconst (v := 1) X dX12_readPerson_43 (by decide) ?_
  refine xr_goto (tgt := 48) X dX12_readPerson_44 (by decide) ?_
  refine xr_callV X (xu_s _ _ _) rfl kw_1092 kw_1094 kw_28 cw_X12_must [.int 1] (c_X12_must (xu_s _ _ _) (xu_at (xn1 _ rfl) htape) hB ht hL (by omega)) rfl rfl rfl rfl rfl rfl rfl dX12_readPerson_48 ?_
  refine xr_heap (h' := (xu h m (.inr (11, [.int 0, .int st, .ref (m + 1), .ref (m + 2), .ref (m + 3), .ref (m + 4), .ref (m + 5), .ref (m + 6), .int ac, .ref (m + 7), .int 0, .int la, .int (nI L), .int (nI (tE t L (tE t L (tE t L q)))), .int (nI ((tK t L (tE t L (tE t L q)) + 1) % 5)), .int (nI (tS t L (tE t L (tE t L q)))), .int (nI (tE t L (tE t L (tE t L q)))), .int 0, .int fl, .ref (m + 8), .ref (m + 9), .ref (m + 10), .ref (m + 11), .int tr])))) (xu_uu _ _ _ _) ?_
  refine xr_aload_n X 1 dX12_readPerson_51 rfl rfl ?_
  refine xr_iconst (v := 0) X dX12_readPerson_52 (by decide) ?_
  refine xr_iconst (v := 5) X dX12_readPerson_53 (by decide) ?_
  refine xr_callV X (xu_s _ _ _) rfl kw_1104 kw_1106 kw_29 cw_X12_number [.int 0, .int 5] (c_X12_number (hi := 5) (xu_s _ _ _) (xu_at (xn1 _ rfl) htape) hB ht hL (by omega) (by assumption) (by assumption) (by omega)) rfl rfl rfl rfl rfl rfl rfl dX12_readPerson_54 ?_
  refine xr_heap (h' := (xu h m (.inr (11, [.int 0, .int st, .ref (m + 1), .ref (m + 2), .ref (m + 3), .ref (m + 4), .ref (m + 5), .ref (m + 6), .int ac, .ref (m + 7), .int 0, .int la, .int (nI L), .int (nI (tE t L (tE t L (tE t L (tE t L q))))), .int (nI ((tK t L (tE t L (tE t L (tE t L q))) + 1) % 5)), .int (nI (tS t L (tE t L (tE t L (tE t L q))))), .int (nI (tE t L (tE t L (tE t L (tE t L q))))), .int 0, .int fl, .ref (m + 8), .ref (m + 9), .ref (m + 10), .ref (m + 11), .int tr])))) (xu_uu _ _ _ _) ?_
  refine xr_istore_n (lv' := [(2, .int (nI (nuv t L (tE t L (tE t L q))))), (1, .int (nI (kiW t L (tE t L q)))), (0, .ref m)]) X dX12_readPerson_57 rfl rfl rfl ?_
  refine xr_aload_n X 2 dX12_readPerson_58 rfl rfl ?_
  refine xr_iconst (v := 0) X dX12_readPerson_59 (by decide) ?_
  refine xr_bipush (v := 9) X dX12_readPerson_60 (by decide) ?_
  refine xr_callV X (xu_s _ _ _) rfl kw_1104 kw_1106 kw_29 cw_X12_number [.int 0, .int 9] (c_X12_number (hi := 9) (xu_s _ _ _) (xu_at (xn1 _ rfl) htape) hB ht hL (by omega) (by assumption) (by assumption) (by omega)) rfl rfl rfl rfl rfl rfl rfl dX12_readPerson_62 ?_
  refine xr_heap (h' := (xu h m (.inr (11, [.int 0, .int st, .ref (m + 1), .ref (m + 2), .ref (m + 3), .ref (m + 4), .ref (m + 5), .ref (m + 6), .int ac, .ref (m + 7), .int 0, .int la, .int (nI L), .int (nI (tE t L (tE t L (tE t L (tE t L (tE t L q)))))), .int (nI ((tK t L (tE t L (tE t L (tE t L (tE t L q)))) + 1) % 5)), .int (nI (tS t L (tE t L (tE t L (tE t L (tE t L q)))))), .int (nI (tE t L (tE t L (tE t L (tE t L (tE t L q)))))), .int 0, .int fl, .ref (m + 8), .ref (m + 9), .ref (m + 10), .ref (m + 11), .int tr])))) (xu_uu _ _ _ _) ?_
  refine xr_istore_n (lv' := [(3, .int (nI (nuv t L (tE t L (tE t L (tE t L q)))))), (2, .int (nI (nuv t L (tE t L (tE t L q))))), (1, .int (nI (kiW t L (tE t L q)))), (0, .ref m)]) X dX12_readPerson_65 rfl rfl rfl ?_
  refine xr_aload_n X 3 dX12_readPerson_66 rfl rfl ?_
  refine xr_get X fF_X12_102_11 (xu_s _ _ _) rfl dX12_readPerson_67 ?_
  refine xr_if_ne (tgt := 90) X dX12_readPerson_70 (by decide) (fun c_70 => absurd (by decide) c_70) (fun _ => ?_)
  refine xr_aload_n X 3 dX12_readPerson_73 rfl rfl ?_
  refine xr_aload_n X 3 dX12_readPerson_74 rfl rfl ?_
  refine xr_get X fF_X12_90_11 (xu_s _ _ _) rfl dX12_readPerson_75 ?_
  refine xr_iconst (v := 4) X dX12_readPerson_78 (by decide) ?_
  refine xr_icmp_ne (tgt := 86) X dX12_readPerson_79 (by decide) (fun c_79 => absurd (by rw [h4]; decide) c_79) (fun _ => ?_)
  refine xr_iconst (v := 1) X dX12_readPerson_82 (by decide) ?_
  refine xr_goto (tgt := 87) X dX12_readPerson_83 (by decide) ?_
  refine xr_callV X (xu_s _ _ _) rfl kw_1092 kw_1094 kw_28 cw_X12_must [.int 1] (c_X12_must (xu_s _ _ _) (xu_at (xn1 _ rfl) htape) hB ht hL (by omega)) rfl rfl rfl rfl rfl rfl rfl dX12_readPerson_87 ?_
  refine xr_heap (h' := (xu h m (.inr (11, [.int 0, .int st, .ref (m + 1), .ref (m + 2), .ref (m + 3), .ref (m + 4), .ref (m + 5), .ref (m + 6), .int ac, .ref (m + 7), .int 0, .int la, .int (nI L), .int (nI (tE t L (tE t L (tE t L (tE t L (tE t L (tE t L q))))))), .int (nI ((tK t L (tE t L (tE t L (tE t L (tE t L (tE t L q))))) + 1) % 5)), .int (nI (tS t L (tE t L (tE t L (tE t L (tE t L (tE t L q))))))), .int (nI (tE t L (tE t L (tE t L (tE t L (tE t L (tE t L q))))))), .int 0, .int fl, .ref (m + 8), .ref (m + 9), .ref (m + 10), .ref (m + 11), .int tr])))) (xu_uu _ _ _ _) ?_
  refine xr_aload_n X 3 dX12_readPerson_90 rfl rfl ?_
  refine xr_get X fF_X12_102_11 (xu_s _ _ _) rfl dX12_readPerson_91 ?_
  refine xr_if_ne (tgt := 147) X dX12_readPerson_94 (by decide) (fun c_94 => absurd (by decide) c_94) (fun _ => ?_)
  refine xr_iconst (v := 3) X dX12_readPerson_97 (by decide) ?_
  refine xr_iconst (v := 3) X dX12_readPerson_98 (by decide) ?_
  refine xr_aload_n X 3 dX12_readPerson_99 rfl rfl ?_
  refine xr_get X fF_X12_22_11 (xu_s _ _ _) rfl dX12_readPerson_100 ?_
  refine xr_iconst (v := 0) X dX12_readPerson_103 (by decide) ?_
  refine xr_iald (j := 0) X (xu_at (xn1 _ rfl) hfresh) (xI_e (by decide) (by omega) (by omega)) dX12_readPerson_104 ?_
  refine xr_top (y := (nI n)) hn ?_
  refine xr_imul X dX12_readPerson_105 ?_
  refine xr_iadd X dX12_readPerson_106 ?_
  refine xr_top (y := (nI (3 + 3 * n))) (by rw [show (3 : Int32) = nI 3 from rfl, nI_mul, nI_add]) ?_
  refine xr_istore (lv' := [(4, .int (nI (3 + 3 * n))), (3, .int (nI (nuv t L (tE t L (tE t L (tE t L q)))))), (2, .int (nI (nuv t L (tE t L (tE t L q))))), (1, .int (nI (kiW t L (tE t L q)))), (0, .ref m)]) X dX12_readPerson_107 rfl rfl ?_
  refine xr_aload_n X 4 dX12_readPerson_109 rfl rfl ?_
  refine xr_get X fF_X12_22_11 (xu_s _ _ _) rfl dX12_readPerson_110 ?_
  refine xr_iload X 0 dX12_readPerson_113 rfl ?_
  refine xr_iload_n X 3 dX12_readPerson_115 rfl rfl ?_
  refine xr_iast (j := (3 + 3 * n)) X (xu_at (xn1 _ rfl) hfresh) (xI_n (by omega) (by omega)) dX12_readPerson_116 ?_
  refine xr_aload_n X 4 dX12_readPerson_117 rfl rfl ?_
  refine xr_get X fF_X12_22_11 (xu_at (xn0 _ rfl) (xu_s _ _ _)) rfl dX12_readPerson_118 ?_
  refine xr_iload X 0 dX12_readPerson_121 rfl ?_
  refine xr_iconst (v := 1) X dX12_readPerson_123 (by decide) ?_
  refine xr_iadd X dX12_readPerson_124 ?_
  refine xr_iload_n X 2 dX12_readPerson_125 rfl rfl ?_
  refine xr_iast (j := (3 + 3 * n + 1)) X (xu_s _ _ _) (xI_e (nI_1 _) (by omega) (by omega)) dX12_readPerson_126 ?_
  refine xr_heap (h' := (xu (xu h m (.inr (11, [.int 0, .int st, .ref (m + 1), .ref (m + 2), .ref (m + 3), .ref (m + 4), .ref (m + 5), .ref (m + 6), .int ac, .ref (m + 7), .int 0, .int la, .int (nI L), .int (nI (tE t L (tE t L (tE t L (tE t L (tE t L (tE t L q))))))), .int (nI ((tK t L (tE t L (tE t L (tE t L (tE t L (tE t L q))))) + 1) % 5)), .int (nI (tS t L (tE t L (tE t L (tE t L (tE t L (tE t L q))))))), .int (nI (tE t L (tE t L (tE t L (tE t L (tE t L (tE t L q))))))), .int 0, .int fl, .ref (m + 8), .ref (m + 9), .ref (m + 10), .ref (m + 11), .int tr]))) (m + 5) (.inl (.int, 21, .inl (upd (upd fresh (3 + 3 * n) (nI (kiW t L (tE t L q)))) (3 + 3 * n + 1) (nI (nuv t L (tE t L (tE t L q))))))))) (xu_uu _ _ _ _) ?_
  refine xr_aload_n X 4 dX12_readPerson_127 rfl rfl ?_
  refine xr_get X fF_X12_22_11 (xu_at (xn0 _ rfl) (xu_s _ _ _)) rfl dX12_readPerson_128 ?_
  refine xr_iload X 0 dX12_readPerson_131 rfl ?_
  refine xr_iconst (v := 2) X dX12_readPerson_133 (by decide) ?_
  refine xr_iadd X dX12_readPerson_134 ?_
  refine xr_iload_n X 1 dX12_readPerson_135 rfl rfl ?_
  refine xr_iast (j := (3 + 3 * n + 2)) X (xu_s _ _ _) (xI_e (by rw [show (2 : Int32) = nI 2 from rfl, nI_add]) (by omega) (by omega)) dX12_readPerson_136 ?_
  refine xr_heap (h' := (xu (xu h m (.inr (11, [.int 0, .int st, .ref (m + 1), .ref (m + 2), .ref (m + 3), .ref (m + 4), .ref (m + 5), .ref (m + 6), .int ac, .ref (m + 7), .int 0, .int la, .int (nI L), .int (nI (tE t L (tE t L (tE t L (tE t L (tE t L (tE t L q))))))), .int (nI ((tK t L (tE t L (tE t L (tE t L (tE t L (tE t L q))))) + 1) % 5)), .int (nI (tS t L (tE t L (tE t L (tE t L (tE t L (tE t L q))))))), .int (nI (tE t L (tE t L (tE t L (tE t L (tE t L (tE t L q))))))), .int 0, .int fl, .ref (m + 8), .ref (m + 9), .ref (m + 10), .ref (m + 11), .int tr]))) (m + 5) (.inl (.int, 21, .inl (upd (upd (upd fresh (3 + 3 * n) (nI (kiW t L (tE t L q)))) (3 + 3 * n + 1) (nI (nuv t L (tE t L (tE t L q))))) (3 + 3 * n + 2) (nI (nuv t L (tE t L (tE t L (tE t L q)))))))))) (xu_uu _ _ _ _) ?_
  refine xr_aload_n X 4 dX12_readPerson_137 rfl rfl ?_
  refine xr_get X fF_X12_22_11 (xu_at (xn0 _ rfl) (xu_s _ _ _)) rfl dX12_readPerson_138 ?_
  refine xr_iconst (v := 0) X dX12_readPerson_141 (by decide) ?_
  refine xr_dup2 X dX12_readPerson_142 rfl rfl ?_
  refine xr_iald (j := 0) X (xu_s _ _ _) (xI_e (by decide) (by omega) (by omega)) dX12_readPerson_143 ?_
  refine xr_top (y := (nI n)) (by unfold upd; rw [if_neg (by omega), if_neg (by omega), if_neg (by omega)]; exact hn) ?_
  refine xr_iconst (v := 1) X dX12_readPerson_144 (by decide) ?_
  refine xr_iadd X dX12_readPerson_145 ?_
  refine xr_top (y := (nI (n + 1))) (nI_1 n) ?_
  refine xr_iast (j := 0) X (xu_s _ _ _) (xI_e (by decide) (by omega) (by omega)) dX12_readPerson_146 ?_
  refine xr_heap (h' := (xu (xu h m (.inr (11, [.int 0, .int st, .ref (m + 1), .ref (m + 2), .ref (m + 3), .ref (m + 4), .ref (m + 5), .ref (m + 6), .int ac, .ref (m + 7), .int 0, .int la, .int (nI L), .int (nI (tE t L (tE t L (tE t L (tE t L (tE t L (tE t L q))))))), .int (nI ((tK t L (tE t L (tE t L (tE t L (tE t L (tE t L q))))) + 1) % 5)), .int (nI (tS t L (tE t L (tE t L (tE t L (tE t L (tE t L q))))))), .int (nI (tE t L (tE t L (tE t L (tE t L (tE t L (tE t L q))))))), .int 0, .int fl, .ref (m + 8), .ref (m + 9), .ref (m + 10), .ref (m + 11), .int tr]))) (m + 5) (.inl (.int, 21, .inl (upd (upd (upd (upd fresh (3 + 3 * n) (nI (kiW t L (tE t L q)))) (3 + 3 * n + 1) (nI (nuv t L (tE t L (tE t L q))))) (3 + 3 * n + 2) (nI (nuv t L (tE t L (tE t L (tE t L q)))))) 0 (nI (n + 1))))))) (xu_uu _ _ _ _) ?_
  exact xr_vret X rfl rfl rfl rfl rfl rfl dX12_readPerson_147
set_option maxRecDepth 100000 in
theorem l_X12_twE {Γ : xΓ} {Ω : xW} {h : xH} {sz : Nat} (X : xX Γ Ω cX12_town 2 RX12 "town" (some .int) 5 175 0 0) {m : Nat} {st ac la fa tr : Int32} {tape fresh : Nat → Int32} {t : Nat → Nat} {L q : Nat} (hm : h m = some (mO m st ac 0 la (nI L) (nI (tE t L q)) (nI ((tK t L q + 1) % 5)) (nI (tS t L q)) (nI (tE t L q)) fa (nI (tS t L q)) tr)) (hfresh : h (m + 5) = some (.inl (.int, 21, .inl fresh))) (htape : h (m + 7) = some (.inl (.int, 300, .inl tape))) (hB : ∀ q, q < L → tape q = nI (t q)) (ht : ∀ q, q < L → t q < 256) (hL : L ≤ 300) (hq : q ≤ L) (hf : 0 < fa.toInt) : xG Γ Ω 2 (xQ Γ Ω (some (.int ((-1000100) - nI (tS t L q)))) (xu h m (.inr (11, [.int 0, .int st, .ref (m + 1), .ref (m + 2), .ref (m + 3), .ref (m + 4), .ref (m + 5), .ref (m + 6), .int ac, .ref (m + 7), .int 0, .int fa, .int (nI L), .int (nI (tE t L q)), .int (nI ((tK t L q + 1) % 5)), .int (nI (tS t L q)), .int (nI (tE t L q)), .int fa, .int (nI (tS t L q)), .ref (m + 8), .ref (m + 9), .ref (m + 10), .ref (m + 11), .int tr]))) (sz) 0 0) 46 [(0, .ref m)] ([]) h sz 0 0 := by
  have hf0 : ¬ fa = 0 := by intro e; rw [e, k32_0] at hf; omega
  refine xr_aload_n X 0 dX12_town_46 rfl rfl ?_
  refine xr_callV X hm rfl kw_1079 kw_1081 kw_25 cw_X12_name [] (c_X12_name hm htape hB ht hL (by omega)) rfl rfl rfl rfl rfl rfl rfl dX12_town_47 ?_
  refine xr_topl (y := 0) (if_neg hf0) ?_
  refine xr_ldc2 (v := 123581014175598) X kw_1083 dX12_town_50 ?_
  refine xr_lcmp X dX12_town_53 ?_
  refine xr_if_ne (tgt := 64) X dX12_town_54 (by decide) (fun _ => ?_) (fun c_54 => absurd c_54 (by decide))
  refine xr_aload_n X 0 dX12_town_64 rfl rfl ?_
  refine xr_get X fF_X12_102_11 hm rfl dX12_town_65 ?_
  refine xr_if_ne (tgt := 84) X dX12_town_68 (by decide) (fun _ => ?_) (fun c_68 => absurd c_68 hf0)
  refine xr_aload_n X 0 dX12_town_84 rfl rfl ?_
  refine xr_get X fF_X12_102_11 hm rfl dX12_town_85 ?_
  refine xr_if_le (tgt := 107) X dX12_town_88 (by decide) (fun c_88 => absurd c_88 (by rw [i32_le, k32_0]; omega)) (fun _ => ?_)
  refine xr_aload_n X 0 dX12_town_91 rfl rfl ?_
  refine xr_aload_n X 0 dX12_town_92 rfl rfl ?_
  refine xr_get X fF_X12_102_11 hm rfl dX12_town_93 ?_
  refine xr_put (fs' := [.int 0, .int st, .ref (m + 1), .ref (m + 2), .ref (m + 3), .ref (m + 4), .ref (m + 5), .ref (m + 6), .int ac, .ref (m + 7), .int 0, .int fa, .int (nI L), .int (nI (tE t L q)), .int (nI ((tK t L q + 1) % 5)), .int (nI (tS t L q)), .int (nI (tE t L q)), .int fa, .int (nI (tS t L q)), .ref (m + 8), .ref (m + 9), .ref (m + 10), .ref (m + 11), .int tr]) X (fW_X12_153_11 _) hm rfl rfl rfl rfl dX12_town_96 ?_
  refine xr_ldc (v := (-1000100)) X kw_1112 dX12_town_99 ?_
  refine xr_aload_n X 0 dX12_town_101 rfl rfl ?_
  refine xr_get X fF_X12_108_11 (xu_s _ _ _) rfl dX12_town_102 ?_
  refine xr_isub X dX12_town_105 ?_
  exact xr_iret X rfl rfl rfl rfl rfl rfl dX12_town_106
set_option maxRecDepth 100000 in
theorem l_X12_twC {Γ : xΓ} {Ω : xW} {h : xH} {sz : Nat} (X : xX Γ Ω cX12_town 2 RX12 "town" (some .int) 5 175 0 0) {m : Nat} {st ac la fl tr : Int32} {tape fresh : Nat → Int32} {t : Nat → Nat} {L q : Nat} (hm : h m = some (mO m st ac 0 la (nI L) (nI (tE t L q)) (nI ((tK t L q + 1) % 5)) (nI (tS t L q)) (nI (tE t L q)) 0 fl tr)) (hfresh : h (m + 5) = some (.inl (.int, 21, .inl fresh))) (htape : h (m + 7) = some (.inl (.int, 300, .inl tape))) (hB : ∀ q, q < L → tape q = nI (t q)) (ht : ∀ q, q < L → t q < 256) (hL : L ≤ 300) (hq : q ≤ L) (hw : wdP t L q wl_person = false) (h0 : ¬ tK t L q = 0) : xG Γ Ω 2 (xQ Γ Ω (some (.int ((-1000100) - nI (tS t L q)))) (xu h m (.inr (11, [.int 0, .int st, .ref (m + 1), .ref (m + 2), .ref (m + 3), .ref (m + 4), .ref (m + 5), .ref (m + 6), .int ac, .ref (m + 7), .int 0, .int 1, .int (nI L), .int (nI (tE t L q)), .int (nI ((tK t L q + 1) % 5)), .int (nI (tS t L q)), .int (nI (tE t L q)), .int 1, .int (nI (tS t L q)), .ref (m + 8), .ref (m + 9), .ref (m + 10), .ref (m + 11), .int tr]))) (sz) 0 0) 46 [(0, .ref m)] ([]) h sz 0 0 := by
  have kle := tK_le t L q
  refine xr_aload_n X 0 dX12_town_46 rfl rfl ?_
  refine xr_callV X hm rfl kw_1079 kw_1081 kw_25 cw_X12_name [] (c_X12_name hm htape hB ht hL (by omega)) rfl rfl rfl rfl rfl rfl rfl dX12_town_47 ?_
  refine xr_topl (y := (Int64.ofNat (nmv t L q))) (if_pos rfl) ?_
  refine xr_ldc2 (v := 123581014175598) X kw_1083 dX12_town_50 ?_
  refine xr_lcmp X dX12_town_53 ?_
  refine xr_if_ne (tgt := 64) X dX12_town_54 (by decide) (fun _ => ?_) (fun c_54 => absurd c_54 (fun e9 => absurd (of_decide_eq_false ((wd_person hq).symm.trans hw)) (not_not_intro (by have := lgc_eq.mp e9; rw [nmv_i hq ht, k64_123581014175598] at this; omega))))
  refine xr_aload_n X 0 dX12_town_64 rfl rfl ?_
  refine xr_get X fF_X12_102_11 hm rfl dX12_town_65 ?_
  refine xr_if_ne (tgt := 84) X dX12_town_68 (by decide) (fun c_68 => absurd (by decide) c_68) (fun _ => ?_)
  refine xr_aload_n X 0 dX12_town_71 rfl rfl ?_
  refine xr_get X fF_X12_90_11 hm rfl dX12_town_72 ?_
  refine xr_iconst (v := 1) X dX12_town_75 (by decide) ?_
  refine xr_icmp_eq (tgt := 84) X dX12_town_76 (by decide) (fun c_76 => absurd c_76 (by rw [i32_eq, nI_toInt (by omega), k32_1]; omega)) (fun _ => ?_)
  refine xr_aload_n X 0 dX12_town_79 rfl rfl ?_
  refine xr_iconst (v := 1) X dX12_town_80 (by decide) ?_
  refine xr_callV X hm rfl kw_1084 kw_1086 kw_26 cw_X12_bad [.int 1] (c_X12_bad hm) rfl rfl rfl rfl rfl rfl rfl dX12_town_81 ?_
  refine xr_aload_n X 0 dX12_town_84 rfl rfl ?_
  refine xr_get X fF_X12_102_11 (xu_s _ _ _) rfl dX12_town_85 ?_
  refine xr_if_le (tgt := 107) X dX12_town_88 (by decide) (fun c_88 => absurd c_88 (by decide)) (fun _ => ?_)
  refine xr_aload_n X 0 dX12_town_91 rfl rfl ?_
  refine xr_aload_n X 0 dX12_town_92 rfl rfl ?_
  refine xr_get X fF_X12_102_11 (xu_s _ _ _) rfl dX12_town_93 ?_
  refine xr_put (fs' := [.int 0, .int st, .ref (m + 1), .ref (m + 2), .ref (m + 3), .ref (m + 4), .ref (m + 5), .ref (m + 6), .int ac, .ref (m + 7), .int 0, .int 1, .int (nI L), .int (nI (tE t L q)), .int (nI ((tK t L q + 1) % 5)), .int (nI (tS t L q)), .int (nI (tE t L q)), .int 1, .int (nI (tS t L q)), .ref (m + 8), .ref (m + 9), .ref (m + 10), .ref (m + 11), .int tr]) X (fW_X12_153_11 _) (xu_s _ _ _) rfl rfl rfl rfl dX12_town_96 ?_
  refine xr_heap (h' := (xu h m (.inr (11, [.int 0, .int st, .ref (m + 1), .ref (m + 2), .ref (m + 3), .ref (m + 4), .ref (m + 5), .ref (m + 6), .int ac, .ref (m + 7), .int 0, .int 1, .int (nI L), .int (nI (tE t L q)), .int (nI ((tK t L q + 1) % 5)), .int (nI (tS t L q)), .int (nI (tE t L q)), .int 1, .int (nI (tS t L q)), .ref (m + 8), .ref (m + 9), .ref (m + 10), .ref (m + 11), .int tr])))) (xu_uu _ _ _ _) ?_
  refine xr_ldc (v := (-1000100)) X kw_1112 dX12_town_99 ?_
  refine xr_aload_n X 0 dX12_town_101 rfl rfl ?_
  refine xr_get X fF_X12_108_11 (xu_s _ _ _) rfl dX12_town_102 ?_
  refine xr_isub X dX12_town_105 ?_
  exact xr_iret X rfl rfl rfl rfl rfl rfl dX12_town_106
set_option maxRecDepth 100000 in
theorem l_X12_twCp {Γ : xΓ} {Ω : xW} {h : xH} {sz : Nat} (X : xX Γ Ω cX12_town 2 RX12 "town" (some .int) 5 175 0 0) {m : Nat} {st ac la fl tr : Int32} {tape fresh town : Nat → Int32} {t : Nat → Nat} {L q : Nat} {N : Nat} (hm : h m = some (mO m st ac 0 la (nI L) (nI (tE t L q)) (nI ((tK t L q + 1) % 5)) (nI (tS t L q)) (nI (tE t L q)) 0 fl tr)) (hfresh : h (m + 5) = some (.inl (.int, 21, .inl fresh))) (htape : h (m + 7) = some (.inl (.int, 300, .inl tape))) (hB : ∀ q, q < L → tape q = nI (t q)) (ht : ∀ q, q < L → t q < 256) (hL : L ≤ 300) (hq : q ≤ L) (htown : h (m + 4) = some (.inl (.int, 21, .inl town))) (hN : fresh 0 = nI N) : ∀ (j0 k : Nat), k + j0 = 21 → xG Γ Ω 2 (xQ Γ Ω (some (.int (nI N))) (xu (xu h m (.inr (11, [.int 0, .int st, .ref (m + 1), .ref (m + 2), .ref (m + 3), .ref (m + 4), .ref (m + 5), .ref (m + 6), .int 0, .ref (m + 7), .int 0, .int la, .int (nI L), .int (nI (tE t L q)), .int (nI ((tK t L q + 1) % 5)), .int (nI (tS t L q)), .int (nI (tE t L q)), .int 0, .int fl, .ref (m + 8), .ref (m + 9), .ref (m + 10), .ref (m + 11), .int tr]))) (m + 4) (.inl (.int, 21, .inl (va_cpy fresh town 0 0 21)))) (sz) 0 0) 114 [(1, .int (nI k)), (0, .ref m)] ([]) (xu (xu h m (.inr (11, [.int 0, .int st, .ref (m + 1), .ref (m + 2), .ref (m + 3), .ref (m + 4), .ref (m + 5), .ref (m + 6), .int 0, .ref (m + 7), .int 0, .int la, .int (nI L), .int (nI (tE t L q)), .int (nI ((tK t L q + 1) % 5)), .int (nI (tS t L q)), .int (nI (tE t L q)), .int 0, .int fl, .ref (m + 8), .ref (m + 9), .ref (m + 10), .ref (m + 11), .int tr]))) (m + 4) (.inl (.int, 21, .inl (va_cpy fresh town 0 0 k)))) sz 0 0 := by
  intro j0
  induction j0 with
  | zero =>
    intro k hk
    have ek : k = 21 := by omega
    refine xr_iload_n X 0 dX12_town_114 rfl rfl ?_
    refine xr_bipush (v := 21) X dX12_town_115 (by decide) ?_
    refine xr_icmp_ge (tgt := 138) X dX12_town_117 (by decide) (fun _ => ?_) (fun c_117 => absurd (by subst ek; decide) c_117)
    refine xr_aload_n X 1 dX12_town_138 rfl rfl ?_
    refine xr_get X fF_X12_19_11 (xu_at (xn0 _ rfl) (xu_s _ _ _)) rfl dX12_town_139 ?_
    refine xr_iconst (v := 0) X dX12_town_142 (by decide) ?_
    refine xr_iald (j := 0) X (xu_s _ _ _) (xI_e (by decide) (by omega) (by omega)) dX12_town_143 ?_
    refine xr_top (y := (nI N)) (by rw [pk_cpy_in (by omega) (by omega)]; exact hN) ?_
    exact xr_iret X rfl rfl (by rw [ek]) rfl rfl rfl dX12_town_144
  | succ j0 ih =>
    intro k hk
    have lk : k < 21 := by omega
    refine xr_iload_n X 0 dX12_town_114 rfl rfl ?_
    refine xr_bipush (v := 21) X dX12_town_115 (by decide) ?_
    refine xr_icmp_ge (tgt := 138) X dX12_town_117 (by decide) (fun c_117 => absurd c_117 (by rw [i32_le, k32_21, nI_toInt (by omega)]; omega)) (fun _ => ?_)
    refine xr_aload_n X 1 dX12_town_120 rfl rfl ?_
    refine xr_get X fF_X12_19_11 (xu_at (xn0 _ rfl) (xu_s _ _ _)) rfl dX12_town_121 ?_
    refine xr_iload_n X 0 dX12_town_124 rfl rfl ?_
    refine xr_aload_n X 1 dX12_town_125 rfl rfl ?_
    refine xr_get X fF_X12_22_11 (xu_at (xn0 _ rfl) (xu_s _ _ _)) rfl dX12_town_126 ?_
    refine xr_iload_n X 0 dX12_town_129 rfl rfl ?_
    refine xr_iald (j := k) X (xu_at (xne _ rfl) (xu_at (xn1 _ rfl) hfresh)) (xI_n (by omega) (by omega)) dX12_town_130 ?_
    refine xr_iast (j := k) X (xu_s _ _ _) (xI_n (by omega) (by omega)) dX12_town_131 ?_
    refine xr_heap (h' := (xu (xu h m (.inr (11, [.int 0, .int st, .ref (m + 1), .ref (m + 2), .ref (m + 3), .ref (m + 4), .ref (m + 5), .ref (m + 6), .int 0, .ref (m + 7), .int 0, .int la, .int (nI L), .int (nI (tE t L q)), .int (nI ((tK t L q + 1) % 5)), .int (nI (tS t L q)), .int (nI (tE t L q)), .int 0, .int fl, .ref (m + 8), .ref (m + 9), .ref (m + 10), .ref (m + 11), .int tr]))) (m + 4) (.inl (.int, 21, .inl (upd (va_cpy fresh town 0 0 k) k (fresh k)))))) (xu_uu _ _ _ _) ?_
    refine xr_iinc (v := nI (k + 1)) (lv' := [(1, .int (nI (k + 1))), (0, .ref m)]) X 0 dX12_town_132 rfl (nI_1 _) rfl rfl ?_
    refine xr_goto (tgt := 114) X dX12_town_135 (by decide) ?_
    refine xr_heap (h' := (xu (xu h m (.inr (11, [.int 0, .int st, .ref (m + 1), .ref (m + 2), .ref (m + 3), .ref (m + 4), .ref (m + 5), .ref (m + 6), .int 0, .ref (m + 7), .int 0, .int la, .int (nI L), .int (nI (tE t L q)), .int (nI ((tK t L q + 1) % 5)), .int (nI (tS t L q)), .int (nI (tE t L q)), .int 0, .int fl, .ref (m + 8), .ref (m + 9), .ref (m + 10), .ref (m + 11), .int tr]))) (m + 4) (.inl (.int, 21, .inl (va_cpy fresh town 0 0 (k + 1)))))) (by rw [← cp_s, Nat.zero_add]) ?_
    exact ih (k + 1) (by omega)
set_option maxRecDepth 100000 in
theorem l_X12_twB {Γ : xΓ} {Ω : xW} {h : xH} {sz : Nat} (X : xX Γ Ω cX12_town 2 RX12 "town" (some .int) 5 175 0 0) {m : Nat} {st ac la fl tr : Int32} {tape fresh town : Nat → Int32} {t : Nat → Nat} {L q : Nat} {N : Nat} (hm : h m = some (mO m st ac 0 la (nI L) (nI (tE t L q)) (nI ((tK t L q + 1) % 5)) (nI (tS t L q)) (nI (tE t L q)) 0 fl tr)) (hfresh : h (m + 5) = some (.inl (.int, 21, .inl fresh))) (htape : h (m + 7) = some (.inl (.int, 300, .inl tape))) (hB : ∀ q, q < L → tape q = nI (t q)) (ht : ∀ q, q < L → t q < 256) (hL : L ≤ 300) (hq : q ≤ L) (htown : h (m + 4) = some (.inl (.int, 21, .inl town))) (hN : fresh 0 = nI N) (hw : wdP t L q wl_person = false) (h0 : tK t L q = 0) : xG Γ Ω 2 (xQ Γ Ω (some (.int (nI N))) (xu (xu h m (.inr (11, [.int 0, .int st, .ref (m + 1), .ref (m + 2), .ref (m + 3), .ref (m + 4), .ref (m + 5), .ref (m + 6), .int 0, .ref (m + 7), .int 0, .int la, .int (nI L), .int (nI (tE t L q)), .int (nI ((tK t L q + 1) % 5)), .int (nI (tS t L q)), .int (nI (tE t L q)), .int 0, .int fl, .ref (m + 8), .ref (m + 9), .ref (m + 10), .ref (m + 11), .int tr]))) (m + 4) (.inl (.int, 21, .inl (va_cpy fresh town 0 0 21)))) (sz) 0 0) 46 [(0, .ref m)] ([]) h sz 0 0 := by
  have kle := tK_le t L q
  refine xr_aload_n X 0 dX12_town_46 rfl rfl ?_
  refine xr_callV X hm rfl kw_1079 kw_1081 kw_25 cw_X12_name [] (c_X12_name hm htape hB ht hL (by omega)) rfl rfl rfl rfl rfl rfl rfl dX12_town_47 ?_
  refine xr_topl (y := (Int64.ofNat (nmv t L q))) (if_pos rfl) ?_
  refine xr_ldc2 (v := 123581014175598) X kw_1083 dX12_town_50 ?_
  refine xr_lcmp X dX12_town_53 ?_
  refine xr_if_ne (tgt := 64) X dX12_town_54 (by decide) (fun _ => ?_) (fun c_54 => absurd c_54 (fun e9 => absurd (of_decide_eq_false ((wd_person hq).symm.trans hw)) (not_not_intro (by have := lgc_eq.mp e9; rw [nmv_i hq ht, k64_123581014175598] at this; omega))))
  refine xr_aload_n X 0 dX12_town_64 rfl rfl ?_
  refine xr_get X fF_X12_102_11 hm rfl dX12_town_65 ?_
  refine xr_if_ne (tgt := 84) X dX12_town_68 (by decide) (fun c_68 => absurd (by decide) c_68) (fun _ => ?_)
  refine xr_aload_n X 0 dX12_town_71 rfl rfl ?_
  refine xr_get X fF_X12_90_11 hm rfl dX12_town_72 ?_
  refine xr_iconst (v := 1) X dX12_town_75 (by decide) ?_
  refine xr_icmp_eq (tgt := 84) X dX12_town_76 (by decide) (fun _ => ?_) (fun c_76 => absurd (by rw [h0]; rfl) c_76)
  refine xr_aload_n X 0 dX12_town_84 rfl rfl ?_
  refine xr_get X fF_X12_102_11 hm rfl dX12_town_85 ?_
  refine xr_if_le (tgt := 107) X dX12_town_88 (by decide) (fun _ => ?_) (fun c_88 => absurd (by decide) c_88)
  refine xr_aload_n X 0 dX12_town_107 rfl rfl ?_
  refine xr_iconst (v := 0) X dX12_town_108 (by decide) ?_
  refine xr_put (fs' := [.int 0, .int st, .ref (m + 1), .ref (m + 2), .ref (m + 3), .ref (m + 4), .ref (m + 5), .ref (m + 6), .int 0, .ref (m + 7), .int 0, .int la, .int (nI L), .int (nI (tE t L q)), .int (nI ((tK t L q + 1) % 5)), .int (nI (tS t L q)), .int (nI (tE t L q)), .int 0, .int fl, .ref (m + 8), .ref (m + 9), .ref (m + 10), .ref (m + 11), .int tr]) X (fW_X12_157_11 _) hm rfl rfl rfl rfl dX12_town_109 ?_
  refine xr_iconst (v := 0) X dX12_town_112 (by decide) ?_
  refine xr_istore_n (lv' := [(1, .int 0), (0, .ref m)]) X dX12_town_113 rfl rfl rfl ?_
  refine xr_heap (h' := (xu (xu h m (.inr (11, [.int 0, .int st, .ref (m + 1), .ref (m + 2), .ref (m + 3), .ref (m + 4), .ref (m + 5), .ref (m + 6), .int 0, .ref (m + 7), .int 0, .int la, .int (nI L), .int (nI (tE t L q)), .int (nI ((tK t L q + 1) % 5)), .int (nI (tS t L q)), .int (nI (tE t L q)), .int 0, .int fl, .ref (m + 8), .ref (m + 9), .ref (m + 10), .ref (m + 11), .int tr]))) (m + 4) (.inl (.int, 21, .inl (va_cpy fresh town 0 0 0))))) (by rw [cp_0]; exact (xu_id (xu_at (xn1 _ rfl) htown)).symm) ?_
  exact l_X12_twCp X hm hfresh htape hB ht hL hq htown hN 21 0 rfl
set_option maxRecDepth 100000 in
theorem l_X12_tw_3 {Γ : xΓ} {Ω : xW} {h : xH} {sz : Nat} (X : xX Γ Ω cX12_town 2 RX12 "town" (some .int) 5 175 0 0) {m : Nat} {st ac la fl tr : Int32} {tape fresh : Nat → Int32} {t : Nat → Nat} {L q : Nat} {n : Nat} (hm : h m = some (mO m st ac 0 la (nI L) (nI (tE t L q)) (nI ((tK t L q + 1) % 5)) (nI (tS t L q)) (nI (tE t L q)) 0 fl tr)) (hfresh : h (m + 5) = some (.inl (.int, 21, .inl fresh))) (htape : h (m + 7) = some (.inl (.int, 300, .inl tape))) (hB : ∀ q, q < L → tape q = nI (t q)) (ht : ∀ q, q < L → t q < 256) (hL : L ≤ 300) (hq : q ≤ L) (hw : wdP t L q wl_person = true) (hn : fresh 0 = nI n) (hn6 : n ≤ 6) (h6 : n = 6) : xG Γ Ω 2 (xQ Γ Ω (some (.int ((-1000100) - nI (tS t L q)))) (xu h m (.inr (11, [.int 0, .int st, .ref (m + 1), .ref (m + 2), .ref (m + 3), .ref (m + 4), .ref (m + 5), .ref (m + 6), .int ac, .ref (m + 7), .int 0, .int 3, .int (nI L), .int (nI (tE t L q)), .int (nI ((tK t L q + 1) % 5)), .int (nI (tS t L q)), .int (nI (tE t L q)), .int 3, .int (nI (tS t L q)), .ref (m + 8), .ref (m + 9), .ref (m + 10), .ref (m + 11), .int tr]))) (sz) 0 0) 46 [(0, .ref m)] ([]) h sz 0 0 := by
  have r1 : (tE t L q) ≤ L := (tE_rng hq).2
  have r2 : (tE t L (tE t L q)) ≤ L := (tE_rng r1).2
  have r3 : (tE t L (tE t L (tE t L q))) ≤ L := (tE_rng r2).2
  have r4 : (tE t L (tE t L (tE t L (tE t L q)))) ≤ L := (tE_rng r3).2
  have r5 : (tE t L (tE t L (tE t L (tE t L (tE t L q))))) ≤ L := (tE_rng r4).2
  refine xr_aload_n X 0 dX12_town_46 rfl rfl ?_
  refine xr_callV X hm rfl kw_1079 kw_1081 kw_25 cw_X12_name [] (c_X12_name hm htape hB ht hL (by omega)) rfl rfl rfl rfl rfl rfl rfl dX12_town_47 ?_
  refine xr_topl (y := (Int64.ofNat (nmv t L q))) (if_pos rfl) ?_
  refine xr_ldc2 (v := 123581014175598) X kw_1083 dX12_town_50 ?_
  refine xr_lcmp X dX12_town_53 ?_
  refine xr_if_ne (tgt := 64) X dX12_town_54 (by decide) (fun c_54 => absurd (lgc_eq.mpr (by rw [nmv_i hq ht, k64_123581014175598]; have := of_decide_eq_true ((wd_person hq).symm.trans hw); omega)) c_54) (fun _ => ?_)
  refine xr_aload_n X 0 dX12_town_57 rfl rfl ?_
  refine xr_callV X hm rfl kw_1088 kw_1090 kw_27 cw_X12_readPerson [] (c_X12_rp_3 hm hfresh htape hB ht hL hq hw hn hn6 h6) rfl rfl rfl rfl rfl rfl rfl dX12_town_58 ?_
  refine xr_goto (tgt := 46) X dX12_town_61 (by decide) ?_
  have z9 := l_X12_twE (h := (xu h m (.inr (11, [.int 0, .int st, .ref (m + 1), .ref (m + 2), .ref (m + 3), .ref (m + 4), .ref (m + 5), .ref (m + 6), .int ac, .ref (m + 7), .int 0, .int la, .int (nI L), .int (nI (tE t L q)), .int (nI ((tK t L q + 1) % 5)), .int (nI (tS t L q)), .int (nI (tE t L q)), .int 3, .int (nI (tS t L q)), .ref (m + 8), .ref (m + 9), .ref (m + 10), .ref (m + 11), .int tr])))) (q := q) (fa := 3) (sz := sz) X (xu_s _ _ _) (xu_at (xn1 _ rfl) hfresh) (xu_at (xn1 _ rfl) htape) hB ht hL hq (by decide)
  rw [xu_uu] at z9
  exact z9
set_option maxRecDepth 100000 in
theorem l_X12_tw_k {Γ : xΓ} {Ω : xW} {h : xH} {sz : Nat} (X : xX Γ Ω cX12_town 2 RX12 "town" (some .int) 5 175 0 0) {m : Nat} {st ac la fl tr : Int32} {tape fresh : Nat → Int32} {t : Nat → Nat} {L q : Nat} {n : Nat} (hm : h m = some (mO m st ac 0 la (nI L) (nI (tE t L q)) (nI ((tK t L q + 1) % 5)) (nI (tS t L q)) (nI (tE t L q)) 0 fl tr)) (hfresh : h (m + 5) = some (.inl (.int, 21, .inl fresh))) (htape : h (m + 7) = some (.inl (.int, 300, .inl tape))) (hB : ∀ q, q < L → tape q = nI (t q)) (ht : ∀ q, q < L → t q < 256) (hL : L ≤ 300) (hq : q ≤ L) (hw : wdP t L q wl_person = true) (hn : fresh 0 = nI n) (hn6 : n ≤ 6) (h6 : n < 6) (hk : kiW t L (tE t L q) = 0) : xG Γ Ω 2 (xQ Γ Ω (some (.int ((-1000100) - nI (tS t L (tE t L q))))) (xu h m (.inr (11, [.int 0, .int st, .ref (m + 1), .ref (m + 2), .ref (m + 3), .ref (m + 4), .ref (m + 5), .ref (m + 6), .int ac, .ref (m + 7), .int 0, .int 1, .int (nI L), .int (nI (tE t L (tE t L q))), .int (nI ((tK t L (tE t L q) + 1) % 5)), .int (nI (tS t L (tE t L q))), .int (nI (tE t L (tE t L q))), .int 1, .int (nI (tS t L (tE t L q))), .ref (m + 8), .ref (m + 9), .ref (m + 10), .ref (m + 11), .int tr]))) (sz) 0 0) 46 [(0, .ref m)] ([]) h sz 0 0 := by
  have r1 : (tE t L q) ≤ L := (tE_rng hq).2
  have r2 : (tE t L (tE t L q)) ≤ L := (tE_rng r1).2
  have r3 : (tE t L (tE t L (tE t L q))) ≤ L := (tE_rng r2).2
  have r4 : (tE t L (tE t L (tE t L (tE t L q)))) ≤ L := (tE_rng r3).2
  have r5 : (tE t L (tE t L (tE t L (tE t L (tE t L q))))) ≤ L := (tE_rng r4).2
  refine xr_aload_n X 0 dX12_town_46 rfl rfl ?_
  refine xr_callV X hm rfl kw_1079 kw_1081 kw_25 cw_X12_name [] (c_X12_name hm htape hB ht hL (by omega)) rfl rfl rfl rfl rfl rfl rfl dX12_town_47 ?_
  refine xr_topl (y := (Int64.ofNat (nmv t L q))) (if_pos rfl) ?_
  refine xr_ldc2 (v := 123581014175598) X kw_1083 dX12_town_50 ?_
  refine xr_lcmp X dX12_town_53 ?_
  refine xr_if_ne (tgt := 64) X dX12_town_54 (by decide) (fun c_54 => absurd (lgc_eq.mpr (by rw [nmv_i hq ht, k64_123581014175598]; have := of_decide_eq_true ((wd_person hq).symm.trans hw); omega)) c_54) (fun _ => ?_)
  refine xr_aload_n X 0 dX12_town_57 rfl rfl ?_
  refine xr_callV X hm rfl kw_1088 kw_1090 kw_27 cw_X12_readPerson [] (c_X12_rp_k hm hfresh htape hB ht hL hq hw hn hn6 h6 hk) rfl rfl rfl rfl rfl rfl rfl dX12_town_58 ?_
  refine xr_goto (tgt := 46) X dX12_town_61 (by decide) ?_
  have z9 := l_X12_twE (h := (xu h m (.inr (11, [.int 0, .int st, .ref (m + 1), .ref (m + 2), .ref (m + 3), .ref (m + 4), .ref (m + 5), .ref (m + 6), .int ac, .ref (m + 7), .int 0, .int la, .int (nI L), .int (nI (tE t L (tE t L q))), .int (nI ((tK t L (tE t L q) + 1) % 5)), .int (nI (tS t L (tE t L q))), .int (nI (tE t L (tE t L q))), .int 1, .int (nI (tS t L (tE t L q))), .ref (m + 8), .ref (m + 9), .ref (m + 10), .ref (m + 11), .int tr])))) (q := (tE t L q)) (fa := 1) (sz := sz) X (xu_s _ _ _) (xu_at (xn1 _ rfl) hfresh) (xu_at (xn1 _ rfl) htape) hB ht hL (by omega) (by decide)
  rw [xu_uu] at z9
  exact z9
set_option maxRecDepth 100000 in
theorem l_X12_tw_w1 {Γ : xΓ} {Ω : xW} {h : xH} {sz : Nat} (X : xX Γ Ω cX12_town 2 RX12 "town" (some .int) 5 175 0 0) {m : Nat} {st ac la fl tr : Int32} {tape fresh : Nat → Int32} {t : Nat → Nat} {L q : Nat} {n : Nat} (hm : h m = some (mO m st ac 0 la (nI L) (nI (tE t L q)) (nI ((tK t L q + 1) % 5)) (nI (tS t L q)) (nI (tE t L q)) 0 fl tr)) (hfresh : h (m + 5) = some (.inl (.int, 21, .inl fresh))) (htape : h (m + 7) = some (.inl (.int, 300, .inl tape))) (hB : ∀ q, q < L → tape q = nI (t q)) (ht : ∀ q, q < L → t q < 256) (hL : L ≤ 300) (hq : q ≤ L) (hw : wdP t L q wl_person = true) (hn : fresh 0 = nI n) (hn6 : n ≤ 6) (h6 : n < 6) (hk : ¬ kiW t L (tE t L q) = 0) (h2 : ¬ tK t L (tE t L (tE t L q)) = 2) : xG Γ Ω 2 (xQ Γ Ω (some (.int ((-1000100) - nI (tS t L (tE t L (tE t L q)))))) (xu h m (.inr (11, [.int 0, .int st, .ref (m + 1), .ref (m + 2), .ref (m + 3), .ref (m + 4), .ref (m + 5), .ref (m + 6), .int ac, .ref (m + 7), .int 0, .int 1, .int (nI L), .int (nI (tE t L (tE t L (tE t L q)))), .int (nI ((tK t L (tE t L (tE t L q)) + 1) % 5)), .int (nI (tS t L (tE t L (tE t L q)))), .int (nI (tE t L (tE t L (tE t L q)))), .int 1, .int (nI (tS t L (tE t L (tE t L q)))), .ref (m + 8), .ref (m + 9), .ref (m + 10), .ref (m + 11), .int tr]))) (sz) 0 0) 46 [(0, .ref m)] ([]) h sz 0 0 := by
  have r1 : (tE t L q) ≤ L := (tE_rng hq).2
  have r2 : (tE t L (tE t L q)) ≤ L := (tE_rng r1).2
  have r3 : (tE t L (tE t L (tE t L q))) ≤ L := (tE_rng r2).2
  have r4 : (tE t L (tE t L (tE t L (tE t L q)))) ≤ L := (tE_rng r3).2
  have r5 : (tE t L (tE t L (tE t L (tE t L (tE t L q))))) ≤ L := (tE_rng r4).2
  refine xr_aload_n X 0 dX12_town_46 rfl rfl ?_
  refine xr_callV X hm rfl kw_1079 kw_1081 kw_25 cw_X12_name [] (c_X12_name hm htape hB ht hL (by omega)) rfl rfl rfl rfl rfl rfl rfl dX12_town_47 ?_
  refine xr_topl (y := (Int64.ofNat (nmv t L q))) (if_pos rfl) ?_
  refine xr_ldc2 (v := 123581014175598) X kw_1083 dX12_town_50 ?_
  refine xr_lcmp X dX12_town_53 ?_
  refine xr_if_ne (tgt := 64) X dX12_town_54 (by decide) (fun c_54 => absurd (lgc_eq.mpr (by rw [nmv_i hq ht, k64_123581014175598]; have := of_decide_eq_true ((wd_person hq).symm.trans hw); omega)) c_54) (fun _ => ?_)
  refine xr_aload_n X 0 dX12_town_57 rfl rfl ?_
  refine xr_callV X hm rfl kw_1088 kw_1090 kw_27 cw_X12_readPerson [] (c_X12_rp_w1 hm hfresh htape hB ht hL hq hw hn hn6 h6 hk h2) rfl rfl rfl rfl rfl rfl rfl dX12_town_58 ?_
  refine xr_goto (tgt := 46) X dX12_town_61 (by decide) ?_
  have z9 := l_X12_twE (h := (xu h m (.inr (11, [.int 0, .int st, .ref (m + 1), .ref (m + 2), .ref (m + 3), .ref (m + 4), .ref (m + 5), .ref (m + 6), .int ac, .ref (m + 7), .int 0, .int la, .int (nI L), .int (nI (tE t L (tE t L (tE t L q)))), .int (nI ((tK t L (tE t L (tE t L q)) + 1) % 5)), .int (nI (tS t L (tE t L (tE t L q)))), .int (nI (tE t L (tE t L (tE t L q)))), .int 1, .int (nI (tS t L (tE t L (tE t L q)))), .ref (m + 8), .ref (m + 9), .ref (m + 10), .ref (m + 11), .int tr])))) (q := (tE t L (tE t L q))) (fa := 1) (sz := sz) X (xu_s _ _ _) (xu_at (xn1 _ rfl) hfresh) (xu_at (xn1 _ rfl) htape) hB ht hL (by omega) (by decide)
  rw [xu_uu] at z9
  exact z9
set_option maxRecDepth 100000 in
theorem l_X12_tw_w2 {Γ : xΓ} {Ω : xW} {h : xH} {sz : Nat} (X : xX Γ Ω cX12_town 2 RX12 "town" (some .int) 5 175 0 0) {m : Nat} {st ac la fl tr : Int32} {tape fresh : Nat → Int32} {t : Nat → Nat} {L q : Nat} {n : Nat} (hm : h m = some (mO m st ac 0 la (nI L) (nI (tE t L q)) (nI ((tK t L q + 1) % 5)) (nI (tS t L q)) (nI (tE t L q)) 0 fl tr)) (hfresh : h (m + 5) = some (.inl (.int, 21, .inl fresh))) (htape : h (m + 7) = some (.inl (.int, 300, .inl tape))) (hB : ∀ q, q < L → tape q = nI (t q)) (ht : ∀ q, q < L → t q < 256) (hL : L ≤ 300) (hq : q ≤ L) (hw : wdP t L q wl_person = true) (hn : fresh 0 = nI n) (hn6 : n ≤ 6) (h6 : n < 6) (hk : ¬ kiW t L (tE t L q) = 0) (h2 : tK t L (tE t L (tE t L q)) = 2) (hv : 5 < nuv t L (tE t L (tE t L q))) : xG Γ Ω 2 (xQ Γ Ω (some (.int ((-1000100) - nI (tS t L (tE t L (tE t L q)))))) (xu h m (.inr (11, [.int 0, .int st, .ref (m + 1), .ref (m + 2), .ref (m + 3), .ref (m + 4), .ref (m + 5), .ref (m + 6), .int ac, .ref (m + 7), .int 0, .int 2, .int (nI L), .int (nI (tE t L (tE t L (tE t L q)))), .int (nI ((tK t L (tE t L (tE t L q)) + 1) % 5)), .int (nI (tS t L (tE t L (tE t L q)))), .int (nI (tE t L (tE t L (tE t L q)))), .int 2, .int (nI (tS t L (tE t L (tE t L q)))), .ref (m + 8), .ref (m + 9), .ref (m + 10), .ref (m + 11), .int tr]))) (sz) 0 0) 46 [(0, .ref m)] ([]) h sz 0 0 := by
  have r1 : (tE t L q) ≤ L := (tE_rng hq).2
  have r2 : (tE t L (tE t L q)) ≤ L := (tE_rng r1).2
  have r3 : (tE t L (tE t L (tE t L q))) ≤ L := (tE_rng r2).2
  have r4 : (tE t L (tE t L (tE t L (tE t L q)))) ≤ L := (tE_rng r3).2
  have r5 : (tE t L (tE t L (tE t L (tE t L (tE t L q))))) ≤ L := (tE_rng r4).2
  refine xr_aload_n X 0 dX12_town_46 rfl rfl ?_
  refine xr_callV X hm rfl kw_1079 kw_1081 kw_25 cw_X12_name [] (c_X12_name hm htape hB ht hL (by omega)) rfl rfl rfl rfl rfl rfl rfl dX12_town_47 ?_
  refine xr_topl (y := (Int64.ofNat (nmv t L q))) (if_pos rfl) ?_
  refine xr_ldc2 (v := 123581014175598) X kw_1083 dX12_town_50 ?_
  refine xr_lcmp X dX12_town_53 ?_
  refine xr_if_ne (tgt := 64) X dX12_town_54 (by decide) (fun c_54 => absurd (lgc_eq.mpr (by rw [nmv_i hq ht, k64_123581014175598]; have := of_decide_eq_true ((wd_person hq).symm.trans hw); omega)) c_54) (fun _ => ?_)
  refine xr_aload_n X 0 dX12_town_57 rfl rfl ?_
  refine xr_callV X hm rfl kw_1088 kw_1090 kw_27 cw_X12_readPerson [] (c_X12_rp_w2 hm hfresh htape hB ht hL hq hw hn hn6 h6 hk h2 hv) rfl rfl rfl rfl rfl rfl rfl dX12_town_58 ?_
  refine xr_goto (tgt := 46) X dX12_town_61 (by decide) ?_
  have z9 := l_X12_twE (h := (xu h m (.inr (11, [.int 0, .int st, .ref (m + 1), .ref (m + 2), .ref (m + 3), .ref (m + 4), .ref (m + 5), .ref (m + 6), .int ac, .ref (m + 7), .int 0, .int la, .int (nI L), .int (nI (tE t L (tE t L (tE t L q)))), .int (nI ((tK t L (tE t L (tE t L q)) + 1) % 5)), .int (nI (tS t L (tE t L (tE t L q)))), .int (nI (tE t L (tE t L (tE t L q)))), .int 2, .int (nI (tS t L (tE t L (tE t L q)))), .ref (m + 8), .ref (m + 9), .ref (m + 10), .ref (m + 11), .int tr])))) (q := (tE t L (tE t L q))) (fa := 2) (sz := sz) X (xu_s _ _ _) (xu_at (xn1 _ rfl) hfresh) (xu_at (xn1 _ rfl) htape) hB ht hL (by omega) (by decide)
  rw [xu_uu] at z9
  exact z9
set_option maxRecDepth 100000 in
theorem l_X12_tw_m1 {Γ : xΓ} {Ω : xW} {h : xH} {sz : Nat} (X : xX Γ Ω cX12_town 2 RX12 "town" (some .int) 5 175 0 0) {m : Nat} {st ac la fl tr : Int32} {tape fresh : Nat → Int32} {t : Nat → Nat} {L q : Nat} {n : Nat} (hm : h m = some (mO m st ac 0 la (nI L) (nI (tE t L q)) (nI ((tK t L q + 1) % 5)) (nI (tS t L q)) (nI (tE t L q)) 0 fl tr)) (hfresh : h (m + 5) = some (.inl (.int, 21, .inl fresh))) (htape : h (m + 7) = some (.inl (.int, 300, .inl tape))) (hB : ∀ q, q < L → tape q = nI (t q)) (ht : ∀ q, q < L → t q < 256) (hL : L ≤ 300) (hq : q ≤ L) (hw : wdP t L q wl_person = true) (hn : fresh 0 = nI n) (hn6 : n ≤ 6) (h6 : n < 6) (hk : ¬ kiW t L (tE t L q) = 0) (h2 : tK t L (tE t L (tE t L q)) = 2) (hv : nuv t L (tE t L (tE t L q)) ≤ 5) (h3 : ¬ tK t L (tE t L (tE t L (tE t L q))) = 2) : xG Γ Ω 2 (xQ Γ Ω (some (.int ((-1000100) - nI (tS t L (tE t L (tE t L (tE t L q))))))) (xu h m (.inr (11, [.int 0, .int st, .ref (m + 1), .ref (m + 2), .ref (m + 3), .ref (m + 4), .ref (m + 5), .ref (m + 6), .int ac, .ref (m + 7), .int 0, .int 1, .int (nI L), .int (nI (tE t L (tE t L (tE t L (tE t L q))))), .int (nI ((tK t L (tE t L (tE t L (tE t L q))) + 1) % 5)), .int (nI (tS t L (tE t L (tE t L (tE t L q))))), .int (nI (tE t L (tE t L (tE t L (tE t L q))))), .int 1, .int (nI (tS t L (tE t L (tE t L (tE t L q))))), .ref (m + 8), .ref (m + 9), .ref (m + 10), .ref (m + 11), .int tr]))) (sz) 0 0) 46 [(0, .ref m)] ([]) h sz 0 0 := by
  have r1 : (tE t L q) ≤ L := (tE_rng hq).2
  have r2 : (tE t L (tE t L q)) ≤ L := (tE_rng r1).2
  have r3 : (tE t L (tE t L (tE t L q))) ≤ L := (tE_rng r2).2
  have r4 : (tE t L (tE t L (tE t L (tE t L q)))) ≤ L := (tE_rng r3).2
  have r5 : (tE t L (tE t L (tE t L (tE t L (tE t L q))))) ≤ L := (tE_rng r4).2
  refine xr_aload_n X 0 dX12_town_46 rfl rfl ?_
  refine xr_callV X hm rfl kw_1079 kw_1081 kw_25 cw_X12_name [] (c_X12_name hm htape hB ht hL (by omega)) rfl rfl rfl rfl rfl rfl rfl dX12_town_47 ?_
  refine xr_topl (y := (Int64.ofNat (nmv t L q))) (if_pos rfl) ?_
  refine xr_ldc2 (v := 123581014175598) X kw_1083 dX12_town_50 ?_
  refine xr_lcmp X dX12_town_53 ?_
  refine xr_if_ne (tgt := 64) X dX12_town_54 (by decide) (fun c_54 => absurd (lgc_eq.mpr (by rw [nmv_i hq ht, k64_123581014175598]; have := of_decide_eq_true ((wd_person hq).symm.trans hw); omega)) c_54) (fun _ => ?_)
  refine xr_aload_n X 0 dX12_town_57 rfl rfl ?_
  refine xr_callV X hm rfl kw_1088 kw_1090 kw_27 cw_X12_readPerson [] (c_X12_rp_m1 hm hfresh htape hB ht hL hq hw hn hn6 h6 hk h2 hv h3) rfl rfl rfl rfl rfl rfl rfl dX12_town_58 ?_
  refine xr_goto (tgt := 46) X dX12_town_61 (by decide) ?_
  have z9 := l_X12_twE (h := (xu h m (.inr (11, [.int 0, .int st, .ref (m + 1), .ref (m + 2), .ref (m + 3), .ref (m + 4), .ref (m + 5), .ref (m + 6), .int ac, .ref (m + 7), .int 0, .int la, .int (nI L), .int (nI (tE t L (tE t L (tE t L (tE t L q))))), .int (nI ((tK t L (tE t L (tE t L (tE t L q))) + 1) % 5)), .int (nI (tS t L (tE t L (tE t L (tE t L q))))), .int (nI (tE t L (tE t L (tE t L (tE t L q))))), .int 1, .int (nI (tS t L (tE t L (tE t L (tE t L q))))), .ref (m + 8), .ref (m + 9), .ref (m + 10), .ref (m + 11), .int tr])))) (q := (tE t L (tE t L (tE t L q)))) (fa := 1) (sz := sz) X (xu_s _ _ _) (xu_at (xn1 _ rfl) hfresh) (xu_at (xn1 _ rfl) htape) hB ht hL (by omega) (by decide)
  rw [xu_uu] at z9
  exact z9
set_option maxRecDepth 100000 in
theorem l_X12_tw_m2 {Γ : xΓ} {Ω : xW} {h : xH} {sz : Nat} (X : xX Γ Ω cX12_town 2 RX12 "town" (some .int) 5 175 0 0) {m : Nat} {st ac la fl tr : Int32} {tape fresh : Nat → Int32} {t : Nat → Nat} {L q : Nat} {n : Nat} (hm : h m = some (mO m st ac 0 la (nI L) (nI (tE t L q)) (nI ((tK t L q + 1) % 5)) (nI (tS t L q)) (nI (tE t L q)) 0 fl tr)) (hfresh : h (m + 5) = some (.inl (.int, 21, .inl fresh))) (htape : h (m + 7) = some (.inl (.int, 300, .inl tape))) (hB : ∀ q, q < L → tape q = nI (t q)) (ht : ∀ q, q < L → t q < 256) (hL : L ≤ 300) (hq : q ≤ L) (hw : wdP t L q wl_person = true) (hn : fresh 0 = nI n) (hn6 : n ≤ 6) (h6 : n < 6) (hk : ¬ kiW t L (tE t L q) = 0) (h2 : tK t L (tE t L (tE t L q)) = 2) (hv : nuv t L (tE t L (tE t L q)) ≤ 5) (h3 : tK t L (tE t L (tE t L (tE t L q))) = 2) (hu : 9 < nuv t L (tE t L (tE t L (tE t L q)))) : xG Γ Ω 2 (xQ Γ Ω (some (.int ((-1000100) - nI (tS t L (tE t L (tE t L (tE t L q))))))) (xu h m (.inr (11, [.int 0, .int st, .ref (m + 1), .ref (m + 2), .ref (m + 3), .ref (m + 4), .ref (m + 5), .ref (m + 6), .int ac, .ref (m + 7), .int 0, .int 2, .int (nI L), .int (nI (tE t L (tE t L (tE t L (tE t L q))))), .int (nI ((tK t L (tE t L (tE t L (tE t L q))) + 1) % 5)), .int (nI (tS t L (tE t L (tE t L (tE t L q))))), .int (nI (tE t L (tE t L (tE t L (tE t L q))))), .int 2, .int (nI (tS t L (tE t L (tE t L (tE t L q))))), .ref (m + 8), .ref (m + 9), .ref (m + 10), .ref (m + 11), .int tr]))) (sz) 0 0) 46 [(0, .ref m)] ([]) h sz 0 0 := by
  have r1 : (tE t L q) ≤ L := (tE_rng hq).2
  have r2 : (tE t L (tE t L q)) ≤ L := (tE_rng r1).2
  have r3 : (tE t L (tE t L (tE t L q))) ≤ L := (tE_rng r2).2
  have r4 : (tE t L (tE t L (tE t L (tE t L q)))) ≤ L := (tE_rng r3).2
  have r5 : (tE t L (tE t L (tE t L (tE t L (tE t L q))))) ≤ L := (tE_rng r4).2
  refine xr_aload_n X 0 dX12_town_46 rfl rfl ?_
  refine xr_callV X hm rfl kw_1079 kw_1081 kw_25 cw_X12_name [] (c_X12_name hm htape hB ht hL (by omega)) rfl rfl rfl rfl rfl rfl rfl dX12_town_47 ?_
  refine xr_topl (y := (Int64.ofNat (nmv t L q))) (if_pos rfl) ?_
  refine xr_ldc2 (v := 123581014175598) X kw_1083 dX12_town_50 ?_
  refine xr_lcmp X dX12_town_53 ?_
  refine xr_if_ne (tgt := 64) X dX12_town_54 (by decide) (fun c_54 => absurd (lgc_eq.mpr (by rw [nmv_i hq ht, k64_123581014175598]; have := of_decide_eq_true ((wd_person hq).symm.trans hw); omega)) c_54) (fun _ => ?_)
  refine xr_aload_n X 0 dX12_town_57 rfl rfl ?_
  refine xr_callV X hm rfl kw_1088 kw_1090 kw_27 cw_X12_readPerson [] (c_X12_rp_m2 hm hfresh htape hB ht hL hq hw hn hn6 h6 hk h2 hv h3 hu) rfl rfl rfl rfl rfl rfl rfl dX12_town_58 ?_
  refine xr_goto (tgt := 46) X dX12_town_61 (by decide) ?_
  have z9 := l_X12_twE (h := (xu h m (.inr (11, [.int 0, .int st, .ref (m + 1), .ref (m + 2), .ref (m + 3), .ref (m + 4), .ref (m + 5), .ref (m + 6), .int ac, .ref (m + 7), .int 0, .int la, .int (nI L), .int (nI (tE t L (tE t L (tE t L (tE t L q))))), .int (nI ((tK t L (tE t L (tE t L (tE t L q))) + 1) % 5)), .int (nI (tS t L (tE t L (tE t L (tE t L q))))), .int (nI (tE t L (tE t L (tE t L (tE t L q))))), .int 2, .int (nI (tS t L (tE t L (tE t L (tE t L q))))), .ref (m + 8), .ref (m + 9), .ref (m + 10), .ref (m + 11), .int tr])))) (q := (tE t L (tE t L (tE t L q)))) (fa := 2) (sz := sz) X (xu_s _ _ _) (xu_at (xn1 _ rfl) hfresh) (xu_at (xn1 _ rfl) htape) hB ht hL (by omega) (by decide)
  rw [xu_uu] at z9
  exact z9
set_option maxRecDepth 100000 in
theorem l_X12_tw_s {Γ : xΓ} {Ω : xW} {h : xH} {sz : Nat} (X : xX Γ Ω cX12_town 2 RX12 "town" (some .int) 5 175 0 0) {m : Nat} {st ac la fl tr : Int32} {tape fresh : Nat → Int32} {t : Nat → Nat} {L q : Nat} {n : Nat} (hm : h m = some (mO m st ac 0 la (nI L) (nI (tE t L q)) (nI ((tK t L q + 1) % 5)) (nI (tS t L q)) (nI (tE t L q)) 0 fl tr)) (hfresh : h (m + 5) = some (.inl (.int, 21, .inl fresh))) (htape : h (m + 7) = some (.inl (.int, 300, .inl tape))) (hB : ∀ q, q < L → tape q = nI (t q)) (ht : ∀ q, q < L → t q < 256) (hL : L ≤ 300) (hq : q ≤ L) (hw : wdP t L q wl_person = true) (hn : fresh 0 = nI n) (hn6 : n ≤ 6) (h6 : n < 6) (hk : ¬ kiW t L (tE t L q) = 0) (h2 : tK t L (tE t L (tE t L q)) = 2) (hv : nuv t L (tE t L (tE t L q)) ≤ 5) (h3 : tK t L (tE t L (tE t L (tE t L q))) = 2) (hu : nuv t L (tE t L (tE t L (tE t L q))) ≤ 9) (h4 : ¬ tK t L (tE t L (tE t L (tE t L (tE t L q)))) = 3) : xG Γ Ω 2 (xQ Γ Ω (some (.int ((-1000100) - nI (tS t L (tE t L (tE t L (tE t L (tE t L q)))))))) (xu h m (.inr (11, [.int 0, .int st, .ref (m + 1), .ref (m + 2), .ref (m + 3), .ref (m + 4), .ref (m + 5), .ref (m + 6), .int ac, .ref (m + 7), .int 0, .int 1, .int (nI L), .int (nI (tE t L (tE t L (tE t L (tE t L (tE t L q)))))), .int (nI ((tK t L (tE t L (tE t L (tE t L (tE t L q)))) + 1) % 5)), .int (nI (tS t L (tE t L (tE t L (tE t L (tE t L q)))))), .int (nI (tE t L (tE t L (tE t L (tE t L (tE t L q)))))), .int 1, .int (nI (tS t L (tE t L (tE t L (tE t L (tE t L q)))))), .ref (m + 8), .ref (m + 9), .ref (m + 10), .ref (m + 11), .int tr]))) (sz) 0 0) 46 [(0, .ref m)] ([]) h sz 0 0 := by
  have r1 : (tE t L q) ≤ L := (tE_rng hq).2
  have r2 : (tE t L (tE t L q)) ≤ L := (tE_rng r1).2
  have r3 : (tE t L (tE t L (tE t L q))) ≤ L := (tE_rng r2).2
  have r4 : (tE t L (tE t L (tE t L (tE t L q)))) ≤ L := (tE_rng r3).2
  have r5 : (tE t L (tE t L (tE t L (tE t L (tE t L q))))) ≤ L := (tE_rng r4).2
  refine xr_aload_n X 0 dX12_town_46 rfl rfl ?_
  refine xr_callV X hm rfl kw_1079 kw_1081 kw_25 cw_X12_name [] (c_X12_name hm htape hB ht hL (by omega)) rfl rfl rfl rfl rfl rfl rfl dX12_town_47 ?_
  refine xr_topl (y := (Int64.ofNat (nmv t L q))) (if_pos rfl) ?_
  refine xr_ldc2 (v := 123581014175598) X kw_1083 dX12_town_50 ?_
  refine xr_lcmp X dX12_town_53 ?_
  refine xr_if_ne (tgt := 64) X dX12_town_54 (by decide) (fun c_54 => absurd (lgc_eq.mpr (by rw [nmv_i hq ht, k64_123581014175598]; have := of_decide_eq_true ((wd_person hq).symm.trans hw); omega)) c_54) (fun _ => ?_)
  refine xr_aload_n X 0 dX12_town_57 rfl rfl ?_
  refine xr_callV X hm rfl kw_1088 kw_1090 kw_27 cw_X12_readPerson [] (c_X12_rp_s hm hfresh htape hB ht hL hq hw hn hn6 h6 hk h2 hv h3 hu h4) rfl rfl rfl rfl rfl rfl rfl dX12_town_58 ?_
  refine xr_goto (tgt := 46) X dX12_town_61 (by decide) ?_
  have z9 := l_X12_twE (h := (xu h m (.inr (11, [.int 0, .int st, .ref (m + 1), .ref (m + 2), .ref (m + 3), .ref (m + 4), .ref (m + 5), .ref (m + 6), .int ac, .ref (m + 7), .int 0, .int la, .int (nI L), .int (nI (tE t L (tE t L (tE t L (tE t L (tE t L q)))))), .int (nI ((tK t L (tE t L (tE t L (tE t L (tE t L q)))) + 1) % 5)), .int (nI (tS t L (tE t L (tE t L (tE t L (tE t L q)))))), .int (nI (tE t L (tE t L (tE t L (tE t L (tE t L q)))))), .int 1, .int (nI (tS t L (tE t L (tE t L (tE t L (tE t L q)))))), .ref (m + 8), .ref (m + 9), .ref (m + 10), .ref (m + 11), .int tr])))) (q := (tE t L (tE t L (tE t L (tE t L q))))) (fa := 1) (sz := sz) X (xu_s _ _ _) (xu_at (xn1 _ rfl) hfresh) (xu_at (xn1 _ rfl) htape) hB ht hL (by omega) (by decide)
  rw [xu_uu] at z9
  exact z9
set_option maxRecDepth 100000 in
theorem l_X12_tw_ok {Γ : xΓ} {Ω : xW} {h : xH} {sz : Nat} (X : xX Γ Ω cX12_town 2 RX12 "town" (some .int) 5 175 0 0) {m : Nat} {st ac la fl tr : Int32} {tape fresh : Nat → Int32} {t : Nat → Nat} {L q : Nat} {n : Nat} {Q : State → Prop} (hm : h m = some (mO m st ac 0 la (nI L) (nI (tE t L q)) (nI ((tK t L q + 1) % 5)) (nI (tS t L q)) (nI (tE t L q)) 0 fl tr)) (hfresh : h (m + 5) = some (.inl (.int, 21, .inl fresh))) (htape : h (m + 7) = some (.inl (.int, 300, .inl tape))) (hB : ∀ q, q < L → tape q = nI (t q)) (ht : ∀ q, q < L → t q < 256) (hL : L ≤ 300) (hq : q ≤ L) (hw : wdP t L q wl_person = true) (hn : fresh 0 = nI n) (hn6 : n ≤ 6) (h6 : n < 6) (hk : ¬ kiW t L (tE t L q) = 0) (h2 : tK t L (tE t L (tE t L q)) = 2) (hv : nuv t L (tE t L (tE t L q)) ≤ 5) (h3 : tK t L (tE t L (tE t L (tE t L q))) = 2) (hu : nuv t L (tE t L (tE t L (tE t L q))) ≤ 9) (h4 : tK t L (tE t L (tE t L (tE t L (tE t L q)))) = 3) (K : xG Γ Ω 2 Q 46 [(0, .ref m)] [] (xu (xu h m (.inr (11, [.int 0, .int st, .ref (m + 1), .ref (m + 2), .ref (m + 3), .ref (m + 4), .ref (m + 5), .ref (m + 6), .int ac, .ref (m + 7), .int 0, .int la, .int (nI L), .int (nI (tE t L (tE t L (tE t L (tE t L (tE t L (tE t L q))))))), .int (nI ((tK t L (tE t L (tE t L (tE t L (tE t L (tE t L q))))) + 1) % 5)), .int (nI (tS t L (tE t L (tE t L (tE t L (tE t L (tE t L q))))))), .int (nI (tE t L (tE t L (tE t L (tE t L (tE t L (tE t L q))))))), .int 0, .int fl, .ref (m + 8), .ref (m + 9), .ref (m + 10), .ref (m + 11), .int tr]))) (m + 5) (.inl (.int, 21, .inl (upd (upd (upd (upd fresh (3 + 3 * n) (nI (kiW t L (tE t L q)))) (3 + 3 * n + 1) (nI (nuv t L (tE t L (tE t L q))))) (3 + 3 * n + 2) (nI (nuv t L (tE t L (tE t L (tE t L q)))))) 0 (nI (n + 1)))))) sz 0 0) : xG Γ Ω 2 (Q) 46 [(0, .ref m)] ([]) h sz 0 0 := by
  have r1 : (tE t L q) ≤ L := (tE_rng hq).2
  have r2 : (tE t L (tE t L q)) ≤ L := (tE_rng r1).2
  have r3 : (tE t L (tE t L (tE t L q))) ≤ L := (tE_rng r2).2
  have r4 : (tE t L (tE t L (tE t L (tE t L q)))) ≤ L := (tE_rng r3).2
  have r5 : (tE t L (tE t L (tE t L (tE t L (tE t L q))))) ≤ L := (tE_rng r4).2
  refine xr_aload_n X 0 dX12_town_46 rfl rfl ?_
  refine xr_callV X hm rfl kw_1079 kw_1081 kw_25 cw_X12_name [] (c_X12_name hm htape hB ht hL (by omega)) rfl rfl rfl rfl rfl rfl rfl dX12_town_47 ?_
  refine xr_topl (y := (Int64.ofNat (nmv t L q))) (if_pos rfl) ?_
  refine xr_ldc2 (v := 123581014175598) X kw_1083 dX12_town_50 ?_
  refine xr_lcmp X dX12_town_53 ?_
  refine xr_if_ne (tgt := 64) X dX12_town_54 (by decide) (fun c_54 => absurd (lgc_eq.mpr (by rw [nmv_i hq ht, k64_123581014175598]; have := of_decide_eq_true ((wd_person hq).symm.trans hw); omega)) c_54) (fun _ => ?_)
  refine xr_aload_n X 0 dX12_town_57 rfl rfl ?_
  refine xr_callV X hm rfl kw_1088 kw_1090 kw_27 cw_X12_readPerson [] (c_X12_rp_ok hm hfresh htape hB ht hL hq hw hn hn6 h6 hk h2 hv h3 hu h4) rfl rfl rfl rfl rfl rfl rfl dX12_town_58 ?_
  refine xr_goto (tgt := 46) X dX12_town_61 (by decide) ?_
  exact K
set_option maxRecDepth 100000 in
theorem l_X12_twOk {Γ : xΓ} {Ω : xW} {sz : Nat} {m : Nat} {st ac la fl tr : Int32} {tape town f0 : Nat → Int32} {t : Nat → Nat} {L N : Nat} (X : xX Γ Ω cX12_town 2 RX12 "town" (some .int) 5 175 0 0) (hB : ∀ q, q < L → tape q = nI (t q)) (ht : ∀ q, q < L → t q < 256) (hL : L ≤ 300) (hf0 : f0 0 = 0) (hw0 : wdP t L 0 wl_person = true) : ∀ (j i : Nat), i + j = 7 → i ≤ 6 → rdR t L j i = (N, none) → ∀ h : xH, h m = some (mO m st ac 0 la (nI L) (nI (tE t L (pAt t L i))) (nI ((tK t L (pAt t L i) + 1) % 5)) (nI (tS t L (pAt t L i))) (nI (tE t L (pAt t L i))) 0 fl tr) → h (m + 5) = some (.inl (.int, 21, .inl (frF t L f0 i))) → h (m + 7) = some (.inl (.int, 300, .inl tape)) → h (m + 4) = some (.inl (.int, 21, .inl town)) → xG Γ Ω 2 (xQ Γ Ω (some (.int (nI N))) (xu (xu (xu h m (.inr (11, [.int 0, .int st, .ref (m + 1), .ref (m + 2), .ref (m + 3), .ref (m + 4), .ref (m + 5), .ref (m + 6), .int 0, .ref (m + 7), .int 0, .int la, .int (nI L), .int (nI (tE t L (pAt t L N))), .int (nI ((tK t L (pAt t L N) + 1) % 5)), .int (nI (tS t L (pAt t L N))), .int (nI (tE t L (pAt t L N))), .int 0, .int fl, .ref (m + 8), .ref (m + 9), .ref (m + 10), .ref (m + 11), .int tr]))) (m + 5) (.inl (.int, 21, .inl (frF t L f0 N)))) (m + 4) (.inl (.int, 21, .inl (va_cpy (frF t L f0 N) town 0 0 21)))) sz 0 0) 46 [(0, .ref m)] [] h sz 0 0 := by
  intro j
  induction j with
  | zero => intro i h1 h2; omega
  | succ j ih =>
    intro i h1 h2 h3 h hm hfresh htape htown
    have hq := pAt_le t L i
    cases hw : wdP t L (pAt t L i) wl_person with
    | true =>
      have hk := wdP_1 hw
      cases hr : rdF t L i (pAt t L i) with
      | some x => rw [rdR_f (by omega) hr] at h3; cases h3
      | none =>
        rw [rdR_n (by omega) hr] at h3
        obtain ⟨g1, g2, g3, g4, g5, g6, g7, g8⟩ := rdF_ok hr
        refine l_X12_tw_ok X hm hfresh htape hB ht hL hq hw (frF_0 hf0 i) h2 (by omega) g3 g4 g5 g6 g7 g8 ?_
        have z := ih (i + 1) (by omega) (by omega) h3 _ (xu_at (xn0 _ rfl) (xu_s _ _ _)) (xu_s _ _ _) (xu_at (xne _ rfl) (xu_at (xn1 _ rfl) htape)) (xu_at (xne _ rfl) (xu_at (xn1 _ rfl) htown))
        rw [xu_22 (xn0 _ rfl)] at z
        exact z
    | false =>
      have hi : 0 < i := by
        cases Nat.eq_zero_or_pos i with
        | inl e => subst e; rw [show pAt t L 0 = 0 from rfl, hw0] at hw; cases hw
        | inr e => exact e
      by_cases h0 : tK t L (pAt t L i) = 0
      · rw [rdR_e ⟨hi, h0⟩] at h3
        cases h3
        have z := l_X12_twB (sz := sz) X hm hfresh htape hB ht hL hq htown (frF_0 hf0 N) hw h0
        rw [xu_id (h := xu h m _) (a := m + 5) (xu_at (xn1 _ rfl) hfresh)]
        exact z
      · rw [rdR_f (by omega) (rdF_w hw)] at h3; cases h3
set_option maxRecDepth 100000 in
theorem l_X12_twBad {Γ : xΓ} {Ω : xW} {sz : Nat} {m : Nat} {st ac la fl tr : Int32} {tape f0 : Nat → Int32} {t : Nat → Nat} {L N : Nat} {f9 y9 : Nat} (X : xX Γ Ω cX12_town 2 RX12 "town" (some .int) 5 175 0 0) (hB : ∀ q, q < L → tape q = nI (t q)) (ht : ∀ q, q < L → t q < 256) (hL : L ≤ 300) (hf0 : f0 0 = 0) (hw0 : wdP t L 0 wl_person = true) : ∀ (j i : Nat), i + j = 7 → i ≤ 6 → rdR t L j i = (N, some (f9, y9)) → ∀ h : xH, h m = some (mO m st ac 0 la (nI L) (nI (tE t L (pAt t L i))) (nI ((tK t L (pAt t L i) + 1) % 5)) (nI (tS t L (pAt t L i))) (nI (tE t L (pAt t L i))) 0 fl tr) → h (m + 5) = some (.inl (.int, 21, .inl (frF t L f0 i))) → h (m + 7) = some (.inl (.int, 300, .inl tape)) → xG Γ Ω 2 (xQ Γ Ω (some (.int ((-1000100) - nI (tS t L y9)))) (xu (xu h m (.inr (11, [.int 0, .int st, .ref (m + 1), .ref (m + 2), .ref (m + 3), .ref (m + 4), .ref (m + 5), .ref (m + 6), .int ac, .ref (m + 7), .int 0, .int (nI f9), .int (nI L), .int (nI (tE t L y9)), .int (nI ((tK t L y9 + 1) % 5)), .int (nI (tS t L y9)), .int (nI (tE t L y9)), .int (nI f9), .int (nI (tS t L y9)), .ref (m + 8), .ref (m + 9), .ref (m + 10), .ref (m + 11), .int tr]))) (m + 5) (.inl (.int, 21, .inl (frF t L f0 N)))) sz 0 0) 46 [(0, .ref m)] [] h sz 0 0 := by
  intro j
  induction j with
  | zero => intro i h1 h2; omega
  | succ j ih =>
    intro i h1 h2 h3 h hm hfresh htape
    have hq := pAt_le t L i
    cases hw : wdP t L (pAt t L i) wl_person with
    | true =>
      have hk := wdP_1 hw
      cases hr : rdF t L i (pAt t L i) with
      | some x =>
        rw [rdR_f (by omega) hr] at h3
        cases h3
        rw [xu_id (h := xu h m _) (a := m + 5) (xu_at (xn1 _ rfl) hfresh)]
        rcases rdF_bad hr hw with ⟨g1, rfl, rfl⟩ | ⟨g1, g2, rfl, rfl⟩ | ⟨g1, g2, g3, rfl, rfl⟩ | ⟨g1, g2, g3, g4, rfl, rfl⟩ | ⟨g1, g2, g3, g4, g5, rfl, rfl⟩ | ⟨g1, g2, g3, g4, g5, g6, rfl, rfl⟩ | ⟨g1, g2, g3, g4, g5, g6, g7, rfl, rfl⟩
        · exact l_X12_tw_3 X hm hfresh htape hB ht hL hq hw (frF_0 hf0 N) h2 g1
        · exact l_X12_tw_k X hm hfresh htape hB ht hL hq hw (frF_0 hf0 N) h2 (by omega) g2
        · exact l_X12_tw_w1 X hm hfresh htape hB ht hL hq hw (frF_0 hf0 N) h2 (by omega) g2 g3
        · exact l_X12_tw_w2 X hm hfresh htape hB ht hL hq hw (frF_0 hf0 N) h2 (by omega) g2 g3 g4
        · exact l_X12_tw_m1 X hm hfresh htape hB ht hL hq hw (frF_0 hf0 N) h2 (by omega) g2 g3 g4 g5
        · exact l_X12_tw_m2 X hm hfresh htape hB ht hL hq hw (frF_0 hf0 N) h2 (by omega) g2 g3 g4 g5 g6
        · exact l_X12_tw_s X hm hfresh htape hB ht hL hq hw (frF_0 hf0 N) h2 (by omega) g2 g3 g4 g5 g6 g7
      | none =>
        rw [rdR_n (by omega) hr] at h3
        obtain ⟨g1, g2, g3, g4, g5, g6, g7, g8⟩ := rdF_ok hr
        refine l_X12_tw_ok X hm hfresh htape hB ht hL hq hw (frF_0 hf0 i) h2 (by omega) g3 g4 g5 g6 g7 g8 ?_
        have z := ih (i + 1) (by omega) (by omega) h3 _ (xu_at (xn0 _ rfl) (xu_s _ _ _)) (xu_s _ _ _) (xu_at (xne _ rfl) (xu_at (xn1 _ rfl) htape))
        rw [xu_22 (xn0 _ rfl)] at z
        exact z
    | false =>
      have hi : 0 < i := by
        cases Nat.eq_zero_or_pos i with
        | inl e => subst e; rw [show pAt t L 0 = 0 from rfl, hw0] at hw; cases hw
        | inr e => exact e
      by_cases h0 : tK t L (pAt t L i) = 0
      · rw [rdR_e ⟨hi, h0⟩] at h3; cases h3
      · rw [rdR_f (by omega) (rdF_w hw)] at h3
        cases h3
        rw [xu_id (h := xu h m _) (a := m + 5) (xu_at (xn1 _ rfl) hfresh)]
        exact l_X12_twC X hm hfresh htape hB ht hL hq hw h0
set_option maxRecDepth 100000 in
theorem l_X12_twZ {Γ : xΓ} {Ω : xW} {h : xH} {sz : Nat} (X : xX Γ Ω cX12_town 2 RX12 "town" (some .int) 5 175 0 0) {m : Nat} {st ac la le cu tk sa ti fa fl tr : Int32} {fresh : Nat → Int32} {t : Nat → Nat} {L : Nat} {Q : State → Prop} (hm : h m = some (mO m st ac (nI L) la le cu tk sa ti fa fl tr)) (hfresh : h (m + 5) = some (.inl (.int, 21, .inl fresh))) (K : xG Γ Ω 2 Q 30 [(0, .ref m)] [] (xu (xu h m (.inr (11, [.int 0, .int st, .ref (m + 1), .ref (m + 2), .ref (m + 3), .ref (m + 4), .ref (m + 5), .ref (m + 6), .int ac, .ref (m + 7), .int 0, .int la, .int (nI L), .int (nI (tE t L 0)), .int (nI ((tK t L 0 + 1) % 5)), .int (nI (tS t L 0)), .int (nI (tE t L 0)), .int 0, .int fl, .ref (m + 8), .ref (m + 9), .ref (m + 10), .ref (m + 11), .int tr]))) (m + 5) (.inl (.int, 21, .inl (zf fresh 0 21)))) sz 0 0) : ∀ (j0 k : Nat), k + j0 = 21 → xG Γ Ω 2 (Q) 11 [(1, .int (nI k)), (0, .ref m)] ([]) (xu (xu h m (.inr (11, [.int 0, .int st, .ref (m + 1), .ref (m + 2), .ref (m + 3), .ref (m + 4), .ref (m + 5), .ref (m + 6), .int ac, .ref (m + 7), .int 0, .int la, .int (nI L), .int (nI (tE t L 0)), .int (nI ((tK t L 0 + 1) % 5)), .int (nI (tS t L 0)), .int (nI (tE t L 0)), .int 0, .int fl, .ref (m + 8), .ref (m + 9), .ref (m + 10), .ref (m + 11), .int tr]))) (m + 5) (.inl (.int, 21, .inl (zf fresh 0 k)))) sz 0 0 := by
  intro j0
  induction j0 with
  | zero =>
    intro k hk
    have ek : k = 21 := by omega
    refine xr_iload_n X 0 dX12_town_11 rfl rfl ?_
    refine xr_bipush (v := 21) X dX12_town_12 (by decide) ?_
    refine xr_icmp_ge (tgt := 30) X dX12_town_14 (by decide) (fun _ => ?_) (fun c_14 => absurd (by subst ek; decide) c_14)
    refine xr_locs (lv' := [(0, .ref m)]) [1] rfl ?_
    rw [ek]
    exact K
  | succ j0 ih =>
    intro k hk
    have lk : k < 21 := by omega
    refine xr_iload_n X 0 dX12_town_11 rfl rfl ?_
    refine xr_bipush (v := 21) X dX12_town_12 (by decide) ?_
    refine xr_icmp_ge (tgt := 30) X dX12_town_14 (by decide) (fun c_14 => absurd c_14 (by rw [i32_le, k32_21, nI_toInt (by omega)]; omega)) (fun _ => ?_)
    refine xr_aload_n X 1 dX12_town_17 rfl rfl ?_
    refine xr_get X fF_X12_22_11 (xu_at (xn0 _ rfl) (xu_s _ _ _)) rfl dX12_town_18 ?_
    refine xr_iload_n X 0 dX12_town_21 rfl rfl ?_
    refine xr_iconst (v := 0) X dX12_town_22 (by decide) ?_
    refine xr_iast (j := k) X (xu_s _ _ _) (xI_n (by omega) (by omega)) dX12_town_23 ?_
    refine xr_heap (h' := (xu (xu h m (.inr (11, [.int 0, .int st, .ref (m + 1), .ref (m + 2), .ref (m + 3), .ref (m + 4), .ref (m + 5), .ref (m + 6), .int ac, .ref (m + 7), .int 0, .int la, .int (nI L), .int (nI (tE t L 0)), .int (nI ((tK t L 0 + 1) % 5)), .int (nI (tS t L 0)), .int (nI (tE t L 0)), .int 0, .int fl, .ref (m + 8), .ref (m + 9), .ref (m + 10), .ref (m + 11), .int tr]))) (m + 5) (.inl (.int, 21, .inl (upd (zf fresh 0 k) k 0))))) (xu_uu _ _ _ _) ?_
    refine xr_iinc (v := nI (k + 1)) (lv' := [(1, .int (nI (k + 1))), (0, .ref m)]) X 0 dX12_town_24 rfl (nI_1 _) rfl rfl ?_
    refine xr_goto (tgt := 11) X dX12_town_27 (by decide) ?_
    refine xr_heap (h' := (xu (xu h m (.inr (11, [.int 0, .int st, .ref (m + 1), .ref (m + 2), .ref (m + 3), .ref (m + 4), .ref (m + 5), .ref (m + 6), .int ac, .ref (m + 7), .int 0, .int la, .int (nI L), .int (nI (tE t L 0)), .int (nI ((tK t L 0 + 1) % 5)), .int (nI (tS t L 0)), .int (nI (tE t L 0)), .int 0, .int fl, .ref (m + 8), .ref (m + 9), .ref (m + 10), .ref (m + 11), .int tr]))) (m + 5) (.inl (.int, 21, .inl (zf fresh 0 (k + 1)))))) (by rw [← zf_s, Nat.zero_add]) ?_
    exact ih (k + 1) (by omega)
set_option maxRecDepth 100000 in
theorem c_X12_town {l : Launch} {Ω : xW} {h : xH} {sz : Nat} {m : Nat} {st ac la le cu tk sa ti fa fl tr : Int32} {tape fresh town : Nat → Int32} {t : Nat → Nat} {L : Nat} {N : Nat} (hm : h m = some (mO m st ac (nI L) la le cu tk sa ti fa fl tr)) (hfresh : h (m + 5) = some (.inl (.int, 21, .inl fresh))) (htown : h (m + 4) = some (.inl (.int, 21, .inl town))) (htape : h (m + 7) = some (.inl (.int, 300, .inl tape))) (hB : ∀ q, q < L → tape q = nI (t q)) (ht : ∀ q, q < L → t q < 256) (hL : L ≤ 300) (hR : rdR t L 7 0 = (N, none)) : xC l Ω yX12_town cX12_town 2 (some .int) 5 0 0 [.ref m] h sz (some (.int (nI N))) (xu (xu (xu h m (.inr (11, [.int 0, .int st, .ref (m + 1), .ref (m + 2), .ref (m + 3), .ref (m + 4), .ref (m + 5), .ref (m + 6), .int 0, .ref (m + 7), .int 0, .int la, .int (nI L), .int (nI (tE t L (pAt t L N))), .int (nI ((tK t L (pAt t L N) + 1) % 5)), .int (nI (tS t L (pAt t L N))), .int (nI (tE t L (pAt t L N))), .int 0, .int fl, .ref (m + 8), .ref (m + 9), .ref (m + 10), .ref (m + 11), .int tr]))) (m + 5) (.inl (.int, 21, .inl (frF t L (zf fresh 0 21) N)))) (m + 4) (.inl (.int, 21, .inl (va_cpy (frF t L (zf fresh 0 21) N) town 0 0 21)))) (sz) := by
  refine xC_of (lv := [(0, .ref m)]) pn_X12 rfl rfl (fun Γ X hΓ hbs => ?_)
  have X : xX Γ Ω cX12_town 2 RX12 "town" (some .int) 5 175 0 0 := X
  subst hΓ
  have hq0 := Nat.zero_le L
  have hw : wdP t L 0 wl_person = true := by
    have h9 := (rdR_ok (by omega) hR rfl)
    exact (rdF_ok (h9.2.2.2.1 0 (Nat.le_refl 0) h9.2.2.1)).1
  refine xr_aload_n X 0 dX12_town_0 rfl rfl ?_
  refine xr_iconst (v := 0) X dX12_town_1 (by decide) ?_
  refine xr_put (fs' := [.int 0, .int st, .ref (m + 1), .ref (m + 2), .ref (m + 3), .ref (m + 4), .ref (m + 5), .ref (m + 6), .int ac, .ref (m + 7), .int (nI L), .int la, .int le, .int cu, .int tk, .int sa, .int ti, .int fa, .int fl, .ref (m + 8), .ref (m + 9), .ref (m + 10), .ref (m + 11), .int tr]) X (fW_X12_44_11 _) hm rfl rfl rfl rfl dX12_town_2 ?_
  refine xr_heap (h' := h) (xu_id hm) ?_
  refine xr_aload_n X 0 dX12_town_5 rfl rfl ?_
  refine xr_callV X hm rfl kw_1060 kw_1062 kw_22 cw_X12_begin [] (c_X12_begin hm htape hB ht hL) rfl rfl rfl rfl rfl rfl rfl dX12_town_6 ?_
  refine xr_iconst (v := 0) X dX12_town_9 (by decide) ?_
  refine xr_istore_n (lv' := [(1, .int 0), (0, .ref m)]) X dX12_town_10 rfl rfl rfl ?_
  refine xr_heap (h' := (xu (xu h m (.inr (11, [.int 0, .int st, .ref (m + 1), .ref (m + 2), .ref (m + 3), .ref (m + 4), .ref (m + 5), .ref (m + 6), .int ac, .ref (m + 7), .int 0, .int la, .int (nI L), .int (nI (tE t L 0)), .int (nI ((tK t L 0 + 1) % 5)), .int (nI (tS t L 0)), .int (nI (tE t L 0)), .int 0, .int fl, .ref (m + 8), .ref (m + 9), .ref (m + 10), .ref (m + 11), .int tr]))) (m + 5) (.inl (.int, 21, .inl (zf fresh 0 0))))) (by rw [zf_0]; exact (xu_id (xu_at (xn1 _ rfl) hfresh)).symm) ?_
  refine l_X12_twZ X hm hfresh ?_ 21 0 rfl
  refine xr_aload_n X 0 dX12_town_30 rfl rfl ?_
  refine xr_callV X (xu_at (xn0 _ rfl) (xu_s _ _ _)) rfl kw_1079 kw_1081 kw_25 cw_X12_name [] (c_X12_name (xu_at (xn0 _ rfl) (xu_s _ _ _)) (xu_at (xne _ rfl) (xu_at (xn1 _ rfl) htape)) hB ht hL (by omega)) rfl rfl rfl rfl rfl rfl rfl dX12_town_31 ?_
  refine xr_topl (y := (Int64.ofNat (nmv t L 0))) (if_pos rfl) ?_
  refine xr_ldc2 (v := 123581014175598) X kw_1083 dX12_town_34 ?_
  refine xr_lcmp X dX12_town_37 ?_
  refine xr_if_eq (tgt := 46) X dX12_town_38 (by decide) (fun _ => ?_) (fun c_38 => absurd (lgc_eq.mpr (by rw [nmv_i hq0 ht, k64_123581014175598]; have := of_decide_eq_true ((wd_person hq0).symm.trans hw); omega)) c_38)
  have z := l_X12_twOk (fl := fl) (f0 := zf fresh 0 21) (sz := sz) X hB ht hL (by rfl) hw 7 0 rfl (by omega) hR (xu (xu h m (.inr (11, [.int 0, .int st, .ref (m + 1), .ref (m + 2), .ref (m + 3), .ref (m + 4), .ref (m + 5), .ref (m + 6), .int ac, .ref (m + 7), .int 0, .int la, .int (nI L), .int (nI (tE t L 0)), .int (nI ((tK t L 0 + 1) % 5)), .int (nI (tS t L 0)), .int (nI (tE t L 0)), .int 0, .int fl, .ref (m + 8), .ref (m + 9), .ref (m + 10), .ref (m + 11), .int tr]))) (m + 5) (.inl (.int, 21, .inl (zf fresh 0 21)))) (xu_at (xn0 _ rfl) (xu_s _ _ _)) (xu_s _ _ _) (xu_at (xne _ rfl) (xu_at (xn1 _ rfl) htape)) (xu_at (xne _ rfl) (xu_at (xn1 _ rfl) htown))
  rw [xu_22 (xn0 _ rfl)] at z
  exact z
set_option maxRecDepth 100000 in
theorem c_X12_townF {l : Launch} {Ω : xW} {h : xH} {sz : Nat} {m : Nat} {st ac la le cu tk sa ti fa fl tr : Int32} {tape fresh : Nat → Int32} {t : Nat → Nat} {L : Nat} {N f9 y9 : Nat} (hm : h m = some (mO m st ac (nI L) la le cu tk sa ti fa fl tr)) (hfresh : h (m + 5) = some (.inl (.int, 21, .inl fresh))) (htape : h (m + 7) = some (.inl (.int, 300, .inl tape))) (hB : ∀ q, q < L → tape q = nI (t q)) (ht : ∀ q, q < L → t q < 256) (hL : L ≤ 300) (hR : rdR t L 7 0 = (N, some (f9, y9))) (hw : wdP t L 0 wl_person = true) : xC l Ω yX12_town cX12_town 2 (some .int) 5 0 0 [.ref m] h sz (some (.int ((-1000100) - nI (tS t L y9)))) (xu (xu h m (.inr (11, [.int 0, .int st, .ref (m + 1), .ref (m + 2), .ref (m + 3), .ref (m + 4), .ref (m + 5), .ref (m + 6), .int ac, .ref (m + 7), .int 0, .int (nI f9), .int (nI L), .int (nI (tE t L y9)), .int (nI ((tK t L y9 + 1) % 5)), .int (nI (tS t L y9)), .int (nI (tE t L y9)), .int (nI f9), .int (nI (tS t L y9)), .ref (m + 8), .ref (m + 9), .ref (m + 10), .ref (m + 11), .int tr]))) (m + 5) (.inl (.int, 21, .inl (frF t L (zf fresh 0 21) N)))) (sz) := by
  refine xC_of (lv := [(0, .ref m)]) pn_X12 rfl rfl (fun Γ X hΓ hbs => ?_)
  have X : xX Γ Ω cX12_town 2 RX12 "town" (some .int) 5 175 0 0 := X
  subst hΓ
  have hq0 := Nat.zero_le L
  refine xr_aload_n X 0 dX12_town_0 rfl rfl ?_
  refine xr_iconst (v := 0) X dX12_town_1 (by decide) ?_
  refine xr_put (fs' := [.int 0, .int st, .ref (m + 1), .ref (m + 2), .ref (m + 3), .ref (m + 4), .ref (m + 5), .ref (m + 6), .int ac, .ref (m + 7), .int (nI L), .int la, .int le, .int cu, .int tk, .int sa, .int ti, .int fa, .int fl, .ref (m + 8), .ref (m + 9), .ref (m + 10), .ref (m + 11), .int tr]) X (fW_X12_44_11 _) hm rfl rfl rfl rfl dX12_town_2 ?_
  refine xr_heap (h' := h) (xu_id hm) ?_
  refine xr_aload_n X 0 dX12_town_5 rfl rfl ?_
  refine xr_callV X hm rfl kw_1060 kw_1062 kw_22 cw_X12_begin [] (c_X12_begin hm htape hB ht hL) rfl rfl rfl rfl rfl rfl rfl dX12_town_6 ?_
  refine xr_iconst (v := 0) X dX12_town_9 (by decide) ?_
  refine xr_istore_n (lv' := [(1, .int 0), (0, .ref m)]) X dX12_town_10 rfl rfl rfl ?_
  refine xr_heap (h' := (xu (xu h m (.inr (11, [.int 0, .int st, .ref (m + 1), .ref (m + 2), .ref (m + 3), .ref (m + 4), .ref (m + 5), .ref (m + 6), .int ac, .ref (m + 7), .int 0, .int la, .int (nI L), .int (nI (tE t L 0)), .int (nI ((tK t L 0 + 1) % 5)), .int (nI (tS t L 0)), .int (nI (tE t L 0)), .int 0, .int fl, .ref (m + 8), .ref (m + 9), .ref (m + 10), .ref (m + 11), .int tr]))) (m + 5) (.inl (.int, 21, .inl (zf fresh 0 0))))) (by rw [zf_0]; exact (xu_id (xu_at (xn1 _ rfl) hfresh)).symm) ?_
  refine l_X12_twZ X hm hfresh ?_ 21 0 rfl
  refine xr_aload_n X 0 dX12_town_30 rfl rfl ?_
  refine xr_callV X (xu_at (xn0 _ rfl) (xu_s _ _ _)) rfl kw_1079 kw_1081 kw_25 cw_X12_name [] (c_X12_name (xu_at (xn0 _ rfl) (xu_s _ _ _)) (xu_at (xne _ rfl) (xu_at (xn1 _ rfl) htape)) hB ht hL (by omega)) rfl rfl rfl rfl rfl rfl rfl dX12_town_31 ?_
  refine xr_topl (y := (Int64.ofNat (nmv t L 0))) (if_pos rfl) ?_
  refine xr_ldc2 (v := 123581014175598) X kw_1083 dX12_town_34 ?_
  refine xr_lcmp X dX12_town_37 ?_
  refine xr_if_eq (tgt := 46) X dX12_town_38 (by decide) (fun _ => ?_) (fun c_38 => absurd (lgc_eq.mpr (by rw [nmv_i hq0 ht, k64_123581014175598]; have := of_decide_eq_true ((wd_person hq0).symm.trans hw); omega)) c_38)
  have z := l_X12_twBad (fl := fl) (f0 := zf fresh 0 21) (sz := sz) X hB ht hL (by rfl) hw 7 0 rfl (by omega) hR (xu (xu h m (.inr (11, [.int 0, .int st, .ref (m + 1), .ref (m + 2), .ref (m + 3), .ref (m + 4), .ref (m + 5), .ref (m + 6), .int ac, .ref (m + 7), .int 0, .int la, .int (nI L), .int (nI (tE t L 0)), .int (nI ((tK t L 0 + 1) % 5)), .int (nI (tS t L 0)), .int (nI (tE t L 0)), .int 0, .int fl, .ref (m + 8), .ref (m + 9), .ref (m + 10), .ref (m + 11), .int tr]))) (m + 5) (.inl (.int, 21, .inl (zf fresh 0 21)))) (xu_at (xn0 _ rfl) (xu_s _ _ _)) (xu_s _ _ _) (xu_at (xne _ rfl) (xu_at (xn1 _ rfl) htape))
  rw [xu_22 (xn0 _ rfl)] at z
  exact z
set_option maxRecDepth 100000 in
theorem c_X12_townN {l : Launch} {Ω : xW} {h : xH} {sz : Nat} {m : Nat} {st ac la le cu tk sa ti fa fl tr : Int32} {tape fresh : Nat → Int32} {t : Nat → Nat} {L : Nat} (hm : h m = some (mO m st ac (nI L) la le cu tk sa ti fa fl tr)) (hfresh : h (m + 5) = some (.inl (.int, 21, .inl fresh))) (htape : h (m + 7) = some (.inl (.int, 300, .inl tape))) (hB : ∀ q, q < L → tape q = nI (t q)) (ht : ∀ q, q < L → t q < 256) (hL : L ≤ 300) (hw : wdP t L 0 wl_person = false) : xC l Ω yX12_town cX12_town 2 (some .int) 5 0 0 [.ref m] h sz (some (.int ((-1000100) - nI (tS t L 0)))) (xu (xu h m (.inr (11, [.int 0, .int st, .ref (m + 1), .ref (m + 2), .ref (m + 3), .ref (m + 4), .ref (m + 5), .ref (m + 6), .int ac, .ref (m + 7), .int 0, .int 1, .int (nI L), .int (nI (tE t L 0)), .int (nI ((tK t L 0 + 1) % 5)), .int (nI (tS t L 0)), .int (nI (tE t L 0)), .int 1, .int (nI (tS t L 0)), .ref (m + 8), .ref (m + 9), .ref (m + 10), .ref (m + 11), .int tr]))) (m + 5) (.inl (.int, 21, .inl (zf fresh 0 21)))) (sz) := by
  refine xC_of (lv := [(0, .ref m)]) pn_X12 rfl rfl (fun Γ X hΓ hbs => ?_)
  have X : xX Γ Ω cX12_town 2 RX12 "town" (some .int) 5 175 0 0 := X
  subst hΓ
  have hq0 := Nat.zero_le L
  refine xr_aload_n X 0 dX12_town_0 rfl rfl ?_
  refine xr_iconst (v := 0) X dX12_town_1 (by decide) ?_
  refine xr_put (fs' := [.int 0, .int st, .ref (m + 1), .ref (m + 2), .ref (m + 3), .ref (m + 4), .ref (m + 5), .ref (m + 6), .int ac, .ref (m + 7), .int (nI L), .int la, .int le, .int cu, .int tk, .int sa, .int ti, .int fa, .int fl, .ref (m + 8), .ref (m + 9), .ref (m + 10), .ref (m + 11), .int tr]) X (fW_X12_44_11 _) hm rfl rfl rfl rfl dX12_town_2 ?_
  refine xr_heap (h' := h) (xu_id hm) ?_
  refine xr_aload_n X 0 dX12_town_5 rfl rfl ?_
  refine xr_callV X hm rfl kw_1060 kw_1062 kw_22 cw_X12_begin [] (c_X12_begin hm htape hB ht hL) rfl rfl rfl rfl rfl rfl rfl dX12_town_6 ?_
  refine xr_iconst (v := 0) X dX12_town_9 (by decide) ?_
  refine xr_istore_n (lv' := [(1, .int 0), (0, .ref m)]) X dX12_town_10 rfl rfl rfl ?_
  refine xr_heap (h' := (xu (xu h m (.inr (11, [.int 0, .int st, .ref (m + 1), .ref (m + 2), .ref (m + 3), .ref (m + 4), .ref (m + 5), .ref (m + 6), .int ac, .ref (m + 7), .int 0, .int la, .int (nI L), .int (nI (tE t L 0)), .int (nI ((tK t L 0 + 1) % 5)), .int (nI (tS t L 0)), .int (nI (tE t L 0)), .int 0, .int fl, .ref (m + 8), .ref (m + 9), .ref (m + 10), .ref (m + 11), .int tr]))) (m + 5) (.inl (.int, 21, .inl (zf fresh 0 0))))) (by rw [zf_0]; exact (xu_id (xu_at (xn1 _ rfl) hfresh)).symm) ?_
  refine l_X12_twZ X hm hfresh ?_ 21 0 rfl
  refine xr_aload_n X 0 dX12_town_30 rfl rfl ?_
  refine xr_callV X (xu_at (xn0 _ rfl) (xu_s _ _ _)) rfl kw_1079 kw_1081 kw_25 cw_X12_name [] (c_X12_name (xu_at (xn0 _ rfl) (xu_s _ _ _)) (xu_at (xne _ rfl) (xu_at (xn1 _ rfl) htape)) hB ht hL (by omega)) rfl rfl rfl rfl rfl rfl rfl dX12_town_31 ?_
  refine xr_topl (y := (Int64.ofNat (nmv t L 0))) (if_pos rfl) ?_
  refine xr_ldc2 (v := 123581014175598) X kw_1083 dX12_town_34 ?_
  refine xr_lcmp X dX12_town_37 ?_
  refine xr_if_eq (tgt := 46) X dX12_town_38 (by decide) (fun c_38 => absurd c_38 (fun e9 => absurd (of_decide_eq_false ((wd_person hq0).symm.trans hw)) (not_not_intro (by have := lgc_eq.mp e9; rw [nmv_i hq0 ht, k64_123581014175598] at this; omega)))) (fun _ => ?_)
  refine xr_aload_n X 0 dX12_town_41 rfl rfl ?_
  refine xr_iconst (v := 1) X dX12_town_42 (by decide) ?_
  refine xr_callV X (xu_at (xn0 _ rfl) (xu_s _ _ _)) rfl kw_1084 kw_1086 kw_26 cw_X12_bad [.int 1] (c_X12_bad (xu_at (xn0 _ rfl) (xu_s _ _ _))) rfl rfl rfl rfl rfl rfl rfl dX12_town_43 ?_
  refine xr_heap (h' := (xu (xu h m (.inr (11, [.int 0, .int st, .ref (m + 1), .ref (m + 2), .ref (m + 3), .ref (m + 4), .ref (m + 5), .ref (m + 6), .int ac, .ref (m + 7), .int 0, .int la, .int (nI L), .int (nI (tE t L 0)), .int (nI ((tK t L 0 + 1) % 5)), .int (nI (tS t L 0)), .int (nI (tE t L 0)), .int 1, .int (nI (tS t L 0)), .ref (m + 8), .ref (m + 9), .ref (m + 10), .ref (m + 11), .int tr]))) (m + 5) (.inl (.int, 21, .inl (zf fresh 0 21))))) (xu_in (xn1 _ rfl) (xu_uu _ _ _ _)) ?_
  have z := l_X12_twE (h := (xu (xu h m (.inr (11, [.int 0, .int st, .ref (m + 1), .ref (m + 2), .ref (m + 3), .ref (m + 4), .ref (m + 5), .ref (m + 6), .int ac, .ref (m + 7), .int 0, .int la, .int (nI L), .int (nI (tE t L 0)), .int (nI ((tK t L 0 + 1) % 5)), .int (nI (tS t L 0)), .int (nI (tE t L 0)), .int 1, .int (nI (tS t L 0)), .ref (m + 8), .ref (m + 9), .ref (m + 10), .ref (m + 11), .int tr]))) (m + 5) (.inl (.int, 21, .inl (zf fresh 0 21))))) (q := 0) (fa := 1) (sz := sz) X (xu_at (xn0 _ rfl) (xu_s _ _ _)) (xu_s _ _ _) (xu_at (xne _ rfl) (xu_at (xn1 _ rfl) htape)) hB ht hL hq0 (by decide)
  rw [xu_in (xn1 _ rfl) (xu_uu _ _ _ _)] at z
  exact z
