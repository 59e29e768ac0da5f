set_option maxRecDepth 100000 in
theorem c_X7_rp_n {l : Launch} {Ω : xW} {h : xH} {sz : Nat} {e : Nat} {fa : Int32} {bt : Nat → Int32} {t : Nat → Nat} {L q n : Nat} {pf : Nat → Option Nat} (hko : h (e + 13) = some (kO e (nI L) (nI n) fa (nI (tK t L q)) (nI (tS t L q)) (nI (tE t L q)))) (hbt : h (e + 14) = some (.inl (.byte, 300, .inl bt))) (hB : ∀ q, q < L → bt q = sb (t q)) (ht : ∀ q, q < L → t q < 256) (hL : L ≤ 300) (hq : q ≤ L) (hpf : h (e + 15) = some (.inl (.object "EvePost$Person", 6, .inr (.inr (.inr (.inr pf)))))) (hn6 : n ≤ 6) (hw : wdP t L q wl_person = false) : xC l Ω yX7_readPerson cX7_readPerson 4 (some .boolean) 6 1 3 [.ref (e + 13)] h sz (some (.int 0)) (xu h (e + 13) (.inr (6, [.ref (e + 14), .int (nI L), .ref (e + 15), .int (nI n), .int (1), .int (nI (tK t L q)), .int (nI (tS t L q)), .int (nI (tE t L q))]))) (sz) := by
  refine xC_of (lv := [(0, .ref (e + 13))]) pn_X7 rfl rfl (fun Γ X hΓ hbs => ?_)
  have X : xX Γ Ω cX7_readPerson 4 RX7 "readPerson" (some .boolean) 6 210 1 3 := X
  subst hΓ
  have r1 : (tE t L q) ≤ L := (tE_rng hq).2
  have r2 : (tE t L (tE t L q)) ≤ L := (tE_rng r1).2
  have r3 : (tE t L (tE t L (tE t L q))) ≤ L := (tE_rng r2).2
  have r4 : (tE t L (tE t L (tE t L (tE t L q)))) ≤ L := (tE_rng r3).2
  have n2 := nuv_lt t L (tE t L (tE t L q)) r2
  have n3 := nuv_lt t L (tE t L (tE t L (tE t L q))) r3
  have kw1 := kiW_le t L (tE t L q)
  have tk4 := tK_le t L (tE t L (tE t L (tE t L (tE t L q))))
  have r5 : (tE t L (tE t L (tE t L (tE t L (tE t L q))))) ≤ L := (tE_rng r4).2
  refine xr_aload_n X 0 dX7_readPerson_0 rfl rfl ?_
  refine xr_ldcS (i := 0) X rfl rfl dX7_readPerson_1 ?_
  refine xr_callV X hko rfl kw_333 kw_335 kw_5 cw_X7_isWord [.ref (Ω.2.2.1 0)] (c_X7_isWord (i := 0) hko hbt hB ht hL (by omega) (by omega)) rfl rfl rfl rfl rfl rfl rfl dX7_readPerson_3 ?_
  refine xr_if_ne (tgt := 15) X dX7_readPerson_6 (by decide) (fun c_6 => absurd (xb_0.mpr hw) c_6) (fun _ => ?_)
  refine xr_aload_n X 0 dX7_readPerson_9 rfl rfl ?_
  refine xr_iconst (v := 1) X dX7_readPerson_10 (by decide) ?_
  refine xr_callV X hko rfl kw_385 kw_387 kw_6 cw_X7_faulty [.int 1] (c_X7_faulty hko) rfl rfl rfl rfl rfl rfl rfl dX7_readPerson_11 ?_
  exact xr_zret X rfl rfl rfl rfl rfl rfl rfl dX7_readPerson_14
set_option maxRecDepth 100000 in
theorem c_X7_rp_3 {l : Launch} {Ω : xW} {h : xH} {sz : Nat} {e : Nat} {fa : Int32} {bt : Nat → Int32} {t : Nat → Nat} {L q n : Nat} {pf : Nat → Option Nat} (hko : h (e + 13) = some (kO e (nI L) (nI n) fa (nI (tK t L q)) (nI (tS t L q)) (nI (tE t L q)))) (hbt : h (e + 14) = some (.inl (.byte, 300, .inl bt))) (hB : ∀ q, q < L → bt q = sb (t q)) (ht : ∀ q, q < L → t q < 256) (hL : L ≤ 300) (hq : q ≤ L) (hpf : h (e + 15) = some (.inl (.object "EvePost$Person", 6, .inr (.inr (.inr (.inr pf)))))) (hn6 : n ≤ 6) (hw : wdP t L q wl_person = true) (h6 : n = 6) : xC l Ω yX7_readPerson cX7_readPerson 4 (some .boolean) 6 1 3 [.ref (e + 13)] h sz (some (.int 0)) (xu h (e + 13) (.inr (6, [.ref (e + 14), .int (nI L), .ref (e + 15), .int (nI n), .int (3), .int (nI (tK t L q)), .int (nI (tS t L q)), .int (nI (tE t L q))]))) (sz) := by
  refine xC_of (lv := [(0, .ref (e + 13))]) pn_X7 rfl rfl (fun Γ X hΓ hbs => ?_)
  have X : xX Γ Ω cX7_readPerson 4 RX7 "readPerson" (some .boolean) 6 210 1 3 := X
  subst hΓ
  have r1 : (tE t L q) ≤ L := (tE_rng hq).2
  have r2 : (tE t L (tE t L q)) ≤ L := (tE_rng r1).2
  have r3 : (tE t L (tE t L (tE t L q))) ≤ L := (tE_rng r2).2
  have r4 : (tE t L (tE t L (tE t L (tE t L q)))) ≤ L := (tE_rng r3).2
  have n2 := nuv_lt t L (tE t L (tE t L q)) r2
  have n3 := nuv_lt t L (tE t L (tE t L (tE t L q))) r3
  have kw1 := kiW_le t L (tE t L q)
  have tk4 := tK_le t L (tE t L (tE t L (tE t L (tE t L q))))
  have r5 : (tE t L (tE t L (tE t L (tE t L (tE t L q))))) ≤ L := (tE_rng r4).2
  refine xr_aload_n X 0 dX7_readPerson_0 rfl rfl ?_
  refine xr_ldcS (i := 0) X rfl rfl dX7_readPerson_1 ?_
  refine xr_callV X hko rfl kw_333 kw_335 kw_5 cw_X7_isWord [.ref (Ω.2.2.1 0)] (c_X7_isWord (i := 0) hko hbt hB ht hL (by omega) (by omega)) rfl rfl rfl rfl rfl rfl rfl dX7_readPerson_3 ?_
  refine xr_if_ne (tgt := 15) X dX7_readPerson_6 (by decide) (fun _ => ?_) (fun c_6 => absurd c_6 (xb_1.mpr hw))
  refine xr_aload_n X 0 dX7_readPerson_15 rfl rfl ?_
  refine xr_get X fF_X7_25_6 hko rfl dX7_readPerson_16 ?_
  refine xr_aload_n X 0 dX7_readPerson_19 rfl rfl ?_
  refine xr_get X fF_X7_21_6 hko rfl dX7_readPerson_20 ?_
  refine xr_alen (v := 6) X hpf (show nI 6 = 6 by decide) dX7_readPerson_23 ?_
  refine xr_icmp_lt (tgt := 33) X dX7_readPerson_24 (by decide) (fun c_24 => absurd c_24 (by rw [h6]; decide)) (fun _ => ?_)
  refine xr_aload_n X 0 dX7_readPerson_27 rfl rfl ?_
  refine xr_iconst (v := 3) X dX7_readPerson_28 (by decide) ?_
  refine xr_callV X hko rfl kw_385 kw_387 kw_6 cw_X7_faulty [.int 3] (c_X7_faulty hko) rfl rfl rfl rfl rfl rfl rfl dX7_readPerson_29 ?_
  exact xr_zret X rfl rfl rfl rfl rfl rfl rfl dX7_readPerson_32
set_option maxRecDepth 100000 in
theorem c_X7_rp_k {l : Launch} {Ω : xW} {h : xH} {sz : Nat} {e : Nat} {fa : Int32} {bt : Nat → Int32} {t : Nat → Nat} {L q n : Nat} {pf : Nat → Option Nat} (hko : h (e + 13) = some (kO e (nI L) (nI n) fa (nI (tK t L q)) (nI (tS t L q)) (nI (tE t L q)))) (hbt : h (e + 14) = some (.inl (.byte, 300, .inl bt))) (hB : ∀ q, q < L → bt q = sb (t q)) (ht : ∀ q, q < L → t q < 256) (hL : L ≤ 300) (hq : q ≤ L) (hpf : h (e + 15) = some (.inl (.object "EvePost$Person", 6, .inr (.inr (.inr (.inr pf)))))) (hn6 : n ≤ 6) (hw : wdP t L q wl_person = true) (h6 : n < 6) (hk : kiW t L (tE t L q) = 0) : xC l Ω yX7_readPerson cX7_readPerson 4 (some .boolean) 6 1 3 [.ref (e + 13)] h sz (some (.int 0)) (xu h (e + 13) (.inr (6, [.ref (e + 14), .int (nI L), .ref (e + 15), .int (nI n), .int (1), .int (nI (tK t L (tE t L q))), .int (nI (tS t L (tE t L q))), .int (nI (tE t L (tE t L q)))]))) (sz) := by
  refine xC_of (lv := [(0, .ref (e + 13))]) pn_X7 rfl rfl (fun Γ X hΓ hbs => ?_)
  have X : xX Γ Ω cX7_readPerson 4 RX7 "readPerson" (some .boolean) 6 210 1 3 := X
  subst hΓ
  have r1 : (tE t L q) ≤ L := (tE_rng hq).2
  have r2 : (tE t L (tE t L q)) ≤ L := (tE_rng r1).2
  have r3 : (tE t L (tE t L (tE t L q))) ≤ L := (tE_rng r2).2
  have r4 : (tE t L (tE t L (tE t L (tE t L q)))) ≤ L := (tE_rng r3).2
  have n2 := nuv_lt t L (tE t L (tE t L q)) r2
  have n3 := nuv_lt t L (tE t L (tE t L (tE t L q))) r3
  have kw1 := kiW_le t L (tE t L q)
  have tk4 := tK_le t L (tE t L (tE t L (tE t L (tE t L q))))
  have r5 : (tE t L (tE t L (tE t L (tE t L (tE t L q))))) ≤ L := (tE_rng r4).2
  refine xr_aload_n X 0 dX7_readPerson_0 rfl rfl ?_
  refine xr_ldcS (i := 0) X rfl rfl dX7_readPerson_1 ?_
  refine xr_callV X hko rfl kw_333 kw_335 kw_5 cw_X7_isWord [.ref (Ω.2.2.1 0)] (c_X7_isWord (i := 0) hko hbt hB ht hL (by omega) (by omega)) rfl rfl rfl rfl rfl rfl rfl dX7_readPerson_3 ?_
  refine xr_if_ne (tgt := 15) X dX7_readPerson_6 (by decide) (fun _ => ?_) (fun c_6 => absurd c_6 (xb_1.mpr hw))
  refine xr_aload_n X 0 dX7_readPerson_15 rfl rfl ?_
  refine xr_get X fF_X7_25_6 hko rfl dX7_readPerson_16 ?_
  refine xr_aload_n X 0 dX7_readPerson_19 rfl rfl ?_
  refine xr_get X fF_X7_21_6 hko rfl dX7_readPerson_20 ?_
  refine xr_alen (v := 6) X hpf (show nI 6 = 6 by decide) dX7_readPerson_23 ?_
  refine xr_icmp_lt (tgt := 33) X dX7_readPerson_24 (by decide) (fun _ => ?_) (fun c_24 => absurd (by rw [i32_lt, nI_toInt (by omega), k32_6]; omega) c_24)
  refine xr_aload_n X 0 dX7_readPerson_33 rfl rfl ?_
  refine xr_callV X hko rfl kw_311 kw_313 kw_2 cw_X7_step [] (c_X7_step (p := (tE t L q)) hko hbt hB ht hL (by omega)) rfl rfl rfl rfl rfl rfl rfl dX7_readPerson_34 ?_
  refine xr_aload_n X 0 dX7_readPerson_37 rfl rfl ?_
  refine xr_callV X (xu_s _ _ _) rfl kw_389 kw_391 kw_7 cw_X7_kindAtHand [] (c_X7_kindAtHand (xu_s _ _ _) (xu_at (xne _ rfl) hbt) hB ht hL (by omega)) rfl rfl rfl rfl rfl rfl rfl dX7_readPerson_38 ?_
  refine xr_istore_n (lv' := [(1, .int (nI (kiW t L (tE t L q)))), (0, .ref (e + 13))]) X dX7_readPerson_41 rfl rfl rfl ?_
  refine xr_iload_n X 0 dX7_readPerson_42 rfl rfl ?_
  refine xr_if_ne (tgt := 52) X dX7_readPerson_43 (by decide) (fun c_43 => absurd (by rw [hk]; rfl) c_43) (fun _ => ?_)
  refine xr_aload_n X 1 dX7_readPerson_46 rfl rfl ?_
  refine xr_iconst (v := 1) X dX7_readPerson_47 (by decide) ?_
  refine xr_callV X (xu_s _ _ _) rfl kw_385 kw_387 kw_6 cw_X7_faulty [.int 1] (c_X7_faulty (xu_s _ _ _)) rfl rfl rfl rfl rfl rfl rfl dX7_readPerson_48 ?_
  refine xr_heap (h' := (xu h (e + 13) (.inr (6, [.ref (e + 14), .int (nI L), .ref (e + 15), .int (nI n), .int (1), .int (nI (tK t L (tE t L q))), .int (nI (tS t L (tE t L q))), .int (nI (tE t L (tE t L q)))])))) (xu_uu _ _ _ _) ?_
  exact xr_zret X rfl rfl rfl rfl rfl rfl rfl dX7_readPerson_51
set_option maxRecDepth 100000 in
theorem c_X7_rp_w1 {l : Launch} {Ω : xW} {h : xH} {sz : Nat} {e : Nat} {fa : Int32} {bt : Nat → Int32} {t : Nat → Nat} {L q n : Nat} {pf : Nat → Option Nat} (hko : h (e + 13) = some (kO e (nI L) (nI n) fa (nI (tK t L q)) (nI (tS t L q)) (nI (tE t L q)))) (hbt : h (e + 14) = some (.inl (.byte, 300, .inl bt))) (hB : ∀ q, q < L → bt q = sb (t q)) (ht : ∀ q, q < L → t q < 256) (hL : L ≤ 300) (hq : q ≤ L) (hpf : h (e + 15) = some (.inl (.object "EvePost$Person", 6, .inr (.inr (.inr (.inr pf)))))) (hn6 : n ≤ 6) (hw : wdP t L q wl_person = true) (h6 : n < 6) (hk : ¬ kiW t L (tE t L q) = 0) (h2 : ¬ tK t L (tE t L (tE t L q)) = 2) : xC l Ω yX7_readPerson cX7_readPerson 4 (some .boolean) 6 1 3 [.ref (e + 13)] h sz (some (.int 0)) (xu h (e + 13) (.inr (6, [.ref (e + 14), .int (nI L), .ref (e + 15), .int (nI n), .int (1), .int (nI (tK t L (tE t L (tE t L q)))), .int (nI (tS t L (tE t L (tE t L q)))), .int (nI (tE t L (tE t L (tE t L q))))]))) (sz) := by
  refine xC_of (lv := [(0, .ref (e + 13))]) pn_X7 rfl rfl (fun Γ X hΓ hbs => ?_)
  have X : xX Γ Ω cX7_readPerson 4 RX7 "readPerson" (some .boolean) 6 210 1 3 := X
  subst hΓ
  have r1 : (tE t L q) ≤ L := (tE_rng hq).2
  have r2 : (tE t L (tE t L q)) ≤ L := (tE_rng r1).2
  have r3 : (tE t L (tE t L (tE t L q))) ≤ L := (tE_rng r2).2
  have r4 : (tE t L (tE t L (tE t L (tE t L q)))) ≤ L := (tE_rng r3).2
  have n2 := nuv_lt t L (tE t L (tE t L q)) r2
  have n3 := nuv_lt t L (tE t L (tE t L (tE t L q))) r3
  have kw1 := kiW_le t L (tE t L q)
  have tk4 := tK_le t L (tE t L (tE t L (tE t L (tE t L q))))
  have r5 : (tE t L (tE t L (tE t L (tE t L (tE t L q))))) ≤ L := (tE_rng r4).2
  refine xr_aload_n X 0 dX7_readPerson_0 rfl rfl ?_
  refine xr_ldcS (i := 0) X rfl rfl dX7_readPerson_1 ?_
  refine xr_callV X hko rfl kw_333 kw_335 kw_5 cw_X7_isWord [.ref (Ω.2.2.1 0)] (c_X7_isWord (i := 0) hko hbt hB ht hL (by omega) (by omega)) rfl rfl rfl rfl rfl rfl rfl dX7_readPerson_3 ?_
  refine xr_if_ne (tgt := 15) X dX7_readPerson_6 (by decide) (fun _ => ?_) (fun c_6 => absurd c_6 (xb_1.mpr hw))
  refine xr_aload_n X 0 dX7_readPerson_15 rfl rfl ?_
  refine xr_get X fF_X7_25_6 hko rfl dX7_readPerson_16 ?_
  refine xr_aload_n X 0 dX7_readPerson_19 rfl rfl ?_
  refine xr_get X fF_X7_21_6 hko rfl dX7_readPerson_20 ?_
  refine xr_alen (v := 6) X hpf (show nI 6 = 6 by decide) dX7_readPerson_23 ?_
  refine xr_icmp_lt (tgt := 33) X dX7_readPerson_24 (by decide) (fun _ => ?_) (fun c_24 => absurd (by rw [i32_lt, nI_toInt (by omega), k32_6]; omega) c_24)
  refine xr_aload_n X 0 dX7_readPerson_33 rfl rfl ?_
  refine xr_callV X hko rfl kw_311 kw_313 kw_2 cw_X7_step [] (c_X7_step (p := (tE t L q)) hko hbt hB ht hL (by omega)) rfl rfl rfl rfl rfl rfl rfl dX7_readPerson_34 ?_
  refine xr_aload_n X 0 dX7_readPerson_37 rfl rfl ?_
  refine xr_callV X (xu_s _ _ _) rfl kw_389 kw_391 kw_7 cw_X7_kindAtHand [] (c_X7_kindAtHand (xu_s _ _ _) (xu_at (xne _ rfl) hbt) hB ht hL (by omega)) rfl rfl rfl rfl rfl rfl rfl dX7_readPerson_38 ?_
  refine xr_istore_n (lv' := [(1, .int (nI (kiW t L (tE t L q)))), (0, .ref (e + 13))]) X dX7_readPerson_41 rfl rfl rfl ?_
  refine xr_iload_n X 0 dX7_readPerson_42 rfl rfl ?_
  refine xr_if_ne (tgt := 52) X dX7_readPerson_43 (by decide) (fun _ => ?_) (fun c_43 => absurd c_43 (nI_ne0 (by omega) (by omega)))
  refine xr_aload_n X 1 dX7_readPerson_52 rfl rfl ?_
  refine xr_callV X (xu_s _ _ _) rfl kw_311 kw_313 kw_2 cw_X7_step [] (c_X7_step (p := (tE t L (tE t L q))) (xu_s _ _ _) (xu_at (xne _ rfl) hbt) hB ht hL (by omega)) rfl rfl rfl rfl rfl rfl rfl dX7_readPerson_53 ?_
  refine xr_heap (h' := (xu h (e + 13) (.inr (6, [.ref (e + 14), .int (nI L), .ref (e + 15), .int (nI n), .int (fa), .int (nI (tK t L (tE t L (tE t L q)))), .int (nI (tS t L (tE t L (tE t L q)))), .int (nI (tE t L (tE t L (tE t L q))))])))) (xu_uu _ _ _ _) ?_
  refine xr_aload_n X 1 dX7_readPerson_56 rfl rfl ?_
  refine xr_iconst (v := 5) X dX7_readPerson_57 (by decide) ?_
  refine xr_callV X (xu_s _ _ _) rfl kw_398 kw_400 kw_8 cw_X7_isNumberUpTo [.int 5] (c_X7_nut1 (hi := 5) (xu_s _ _ _) (xu_at (xne _ rfl) hbt) hB ht hL (by omega) (by omega) (by assumption)) rfl rfl rfl rfl rfl rfl rfl dX7_readPerson_58 ?_
  refine xr_heap (h' := (xu h (e + 13) (.inr (6, [.ref (e + 14), .int (nI L), .ref (e + 15), .int (nI n), .int (1), .int (nI (tK t L (tE t L (tE t L q)))), .int (nI (tS t L (tE t L (tE t L q)))), .int (nI (tE t L (tE t L (tE t L q))))])))) (xu_uu _ _ _ _) ?_
  refine xr_if_ne (tgt := 66) X dX7_readPerson_61 (by decide) (fun c_61 => absurd rfl c_61) (fun _ => ?_)
  refine xr_iconst (v := 0) X dX7_readPerson_64 (by decide) ?_
  exact xr_zret X rfl rfl rfl rfl rfl rfl rfl dX7_readPerson_65
set_option maxRecDepth 100000 in
theorem c_X7_rp_w2 {l : Launch} {Ω : xW} {h : xH} {sz : Nat} {e : Nat} {fa : Int32} {bt : Nat → Int32} {t : Nat → Nat} {L q n : Nat} {pf : Nat → Option Nat} (hko : h (e + 13) = some (kO e (nI L) (nI n) fa (nI (tK t L q)) (nI (tS t L q)) (nI (tE t L q)))) (hbt : h (e + 14) = some (.inl (.byte, 300, .inl bt))) (hB : ∀ q, q < L → bt q = sb (t q)) (ht : ∀ q, q < L → t q < 256) (hL : L ≤ 300) (hq : q ≤ L) (hpf : h (e + 15) = some (.inl (.object "EvePost$Person", 6, .inr (.inr (.inr (.inr pf)))))) (hn6 : n ≤ 6) (hw : wdP t L q wl_person = true) (h6 : n < 6) (hk : ¬ kiW t L (tE t L q) = 0) (h2 : tK t L (tE t L (tE t L q)) = 2) (hv : 5 < nuv t L (tE t L (tE t L q))) : xC l Ω yX7_readPerson cX7_readPerson 4 (some .boolean) 6 1 3 [.ref (e + 13)] h sz (some (.int 0)) (xu h (e + 13) (.inr (6, [.ref (e + 14), .int (nI L), .ref (e + 15), .int (nI n), .int (2), .int (nI (tK t L (tE t L (tE t L q)))), .int (nI (tS t L (tE t L (tE t L q)))), .int (nI (tE t L (tE t L (tE t L q))))]))) (sz) := by
  refine xC_of (lv := [(0, .ref (e + 13))]) pn_X7 rfl rfl (fun Γ X hΓ hbs => ?_)
  have X : xX Γ Ω cX7_readPerson 4 RX7 "readPerson" (some .boolean) 6 210 1 3 := X
  subst hΓ
  have r1 : (tE t L q) ≤ L := (tE_rng hq).2
  have r2 : (tE t L (tE t L q)) ≤ L := (tE_rng r1).2
  have r3 : (tE t L (tE t L (tE t L q))) ≤ L := (tE_rng r2).2
  have r4 : (tE t L (tE t L (tE t L (tE t L q)))) ≤ L := (tE_rng r3).2
  have n2 := nuv_lt t L (tE t L (tE t L q)) r2
  have n3 := nuv_lt t L (tE t L (tE t L (tE t L q))) r3
  have kw1 := kiW_le t L (tE t L q)
  have tk4 := tK_le t L (tE t L (tE t L (tE t L (tE t L q))))
  have r5 : (tE t L (tE t L (tE t L (tE t L (tE t L q))))) ≤ L := (tE_rng r4).2
  refine xr_aload_n X 0 dX7_readPerson_0 rfl rfl ?_
  refine xr_ldcS (i := 0) X rfl rfl dX7_readPerson_1 ?_
  refine xr_callV X hko rfl kw_333 kw_335 kw_5 cw_X7_isWord [.ref (Ω.2.2.1 0)] (c_X7_isWord (i := 0) hko hbt hB ht hL (by omega) (by omega)) rfl rfl rfl rfl rfl rfl rfl dX7_readPerson_3 ?_
  refine xr_if_ne (tgt := 15) X dX7_readPerson_6 (by decide) (fun _ => ?_) (fun c_6 => absurd c_6 (xb_1.mpr hw))
  refine xr_aload_n X 0 dX7_readPerson_15 rfl rfl ?_
  refine xr_get X fF_X7_25_6 hko rfl dX7_readPerson_16 ?_
  refine xr_aload_n X 0 dX7_readPerson_19 rfl rfl ?_
  refine xr_get X fF_X7_21_6 hko rfl dX7_readPerson_20 ?_
  refine xr_alen (v := 6) X hpf (show nI 6 = 6 by decide) dX7_readPerson_23 ?_
  refine xr_icmp_lt (tgt := 33) X dX7_readPerson_24 (by decide) (fun _ => ?_) (fun c_24 => absurd (by rw [i32_lt, nI_toInt (by omega), k32_6]; omega) c_24)
  refine xr_aload_n X 0 dX7_readPerson_33 rfl rfl ?_
  refine xr_callV X hko rfl kw_311 kw_313 kw_2 cw_X7_step [] (c_X7_step (p := (tE t L q)) hko hbt hB ht hL (by omega)) rfl rfl rfl rfl rfl rfl rfl dX7_readPerson_34 ?_
  refine xr_aload_n X 0 dX7_readPerson_37 rfl rfl ?_
  refine xr_callV X (xu_s _ _ _) rfl kw_389 kw_391 kw_7 cw_X7_kindAtHand [] (c_X7_kindAtHand (xu_s _ _ _) (xu_at (xne _ rfl) hbt) hB ht hL (by omega)) rfl rfl rfl rfl rfl rfl rfl dX7_readPerson_38 ?_
  refine xr_istore_n (lv' := [(1, .int (nI (kiW t L (tE t L q)))), (0, .ref (e + 13))]) X dX7_readPerson_41 rfl rfl rfl ?_
  refine xr_iload_n X 0 dX7_readPerson_42 rfl rfl ?_
  refine xr_if_ne (tgt := 52) X dX7_readPerson_43 (by decide) (fun _ => ?_) (fun c_43 => absurd c_43 (nI_ne0 (by omega) (by omega)))
  refine xr_aload_n X 1 dX7_readPerson_52 rfl rfl ?_
  refine xr_callV X (xu_s _ _ _) rfl kw_311 kw_313 kw_2 cw_X7_step [] (c_X7_step (p := (tE t L (tE t L q))) (xu_s _ _ _) (xu_at (xne _ rfl) hbt) hB ht hL (by omega)) rfl rfl rfl rfl rfl rfl rfl dX7_readPerson_53 ?_
  refine xr_heap (h' := (xu h (e + 13) (.inr (6, [.ref (e + 14), .int (nI L), .ref (e + 15), .int (nI n), .int (fa), .int (nI (tK t L (tE t L (tE t L q)))), .int (nI (tS t L (tE t L (tE t L q)))), .int (nI (tE t L (tE t L (tE t L q))))])))) (xu_uu _ _ _ _) ?_
  refine xr_aload_n X 1 dX7_readPerson_56 rfl rfl ?_
  refine xr_iconst (v := 5) X dX7_readPerson_57 (by decide) ?_
  refine xr_callV X (xu_s _ _ _) rfl kw_398 kw_400 kw_8 cw_X7_isNumberUpTo [.int 5] (c_X7_nut2 (hi := 5) (xu_s _ _ _) (xu_at (xne _ rfl) hbt) hB ht hL (by omega) (by omega) (by assumption) (by assumption)) rfl rfl rfl rfl rfl rfl rfl dX7_readPerson_58 ?_
  refine xr_heap (h' := (xu h (e + 13) (.inr (6, [.ref (e + 14), .int (nI L), .ref (e + 15), .int (nI n), .int (2), .int (nI (tK t L (tE t L (tE t L q)))), .int (nI (tS t L (tE t L (tE t L q)))), .int (nI (tE t L (tE t L (tE t L q))))])))) (xu_uu _ _ _ _) ?_
  refine xr_if_ne (tgt := 66) X dX7_readPerson_61 (by decide) (fun c_61 => absurd rfl c_61) (fun _ => ?_)
  refine xr_iconst (v := 0) X dX7_readPerson_64 (by decide) ?_
  exact xr_zret X rfl rfl rfl rfl rfl rfl rfl dX7_readPerson_65
set_option maxRecDepth 100000 in
theorem c_X7_rp_m1 {l : Launch} {Ω : xW} {h : xH} {sz : Nat} {e : Nat} {fa : Int32} {bt : Nat → Int32} {t : Nat → Nat} {L q n : Nat} {pf : Nat → Option Nat} (hko : h (e + 13) = some (kO e (nI L) (nI n) fa (nI (tK t L q)) (nI (tS t L q)) (nI (tE t L q)))) (hbt : h (e + 14) = some (.inl (.byte, 300, .inl bt))) (hB : ∀ q, q < L → bt q = sb (t q)) (ht : ∀ q, q < L → t q < 256) (hL : L ≤ 300) (hq : q ≤ L) (hpf : h (e + 15) = some (.inl (.object "EvePost$Person", 6, .inr (.inr (.inr (.inr pf)))))) (hn6 : n ≤ 6) (hw : wdP t L q wl_person = true) (h6 : n < 6) (hk : ¬ kiW t L (tE t L q) = 0) (h2 : tK t L (tE t L (tE t L q)) = 2) (hv : nuv t L (tE t L (tE t L q)) ≤ 5) (h3 : ¬ tK t L (tE t L (tE t L (tE t L q))) = 2) : xC l Ω yX7_readPerson cX7_readPerson 4 (some .boolean) 6 1 3 [.ref (e + 13)] h sz (some (.int 0)) (xu h (e + 13) (.inr (6, [.ref (e + 14), .int (nI L), .ref (e + 15), .int (nI n), .int (1), .int (nI (tK t L (tE t L (tE t L (tE t L q))))), .int (nI (tS t L (tE t L (tE t L (tE t L q))))), .int (nI (tE t L (tE t L (tE t L (tE t L q)))))]))) (sz) := by
  refine xC_of (lv := [(0, .ref (e + 13))]) pn_X7 rfl rfl (fun Γ X hΓ hbs => ?_)
  have X : xX Γ Ω cX7_readPerson 4 RX7 "readPerson" (some .boolean) 6 210 1 3 := X
  subst hΓ
  have r1 : (tE t L q) ≤ L := (tE_rng hq).2
  have r2 : (tE t L (tE t L q)) ≤ L := (tE_rng r1).2
  have r3 : (tE t L (tE t L (tE t L q))) ≤ L := (tE_rng r2).2
  have r4 : (tE t L (tE t L (tE t L (tE t L q)))) ≤ L := (tE_rng r3).2
  have n2 := nuv_lt t L (tE t L (tE t L q)) r2
  have n3 := nuv_lt t L (tE t L (tE t L (tE t L q))) r3
  have kw1 := kiW_le t L (tE t L q)
  have tk4 := tK_le t L (tE t L (tE t L (tE t L (tE t L q))))
  have r5 : (tE t L (tE t L (tE t L (tE t L (tE t L q))))) ≤ L := (tE_rng r4).2
  refine xr_aload_n X 0 dX7_readPerson_0 rfl rfl ?_
  refine xr_ldcS (i := 0) X rfl rfl dX7_readPerson_1 ?_
  refine xr_callV X hko rfl kw_333 kw_335 kw_5 cw_X7_isWord [.ref (Ω.2.2.1 0)] (c_X7_isWord (i := 0) hko hbt hB ht hL (by omega) (by omega)) rfl rfl rfl rfl rfl rfl rfl dX7_readPerson_3 ?_
  refine xr_if_ne (tgt := 15) X dX7_readPerson_6 (by decide) (fun _ => ?_) (fun c_6 => absurd c_6 (xb_1.mpr hw))
  refine xr_aload_n X 0 dX7_readPerson_15 rfl rfl ?_
  refine xr_get X fF_X7_25_6 hko rfl dX7_readPerson_16 ?_
  refine xr_aload_n X 0 dX7_readPerson_19 rfl rfl ?_
  refine xr_get X fF_X7_21_6 hko rfl dX7_readPerson_20 ?_
  refine xr_alen (v := 6) X hpf (show nI 6 = 6 by decide) dX7_readPerson_23 ?_
  refine xr_icmp_lt (tgt := 33) X dX7_readPerson_24 (by decide) (fun _ => ?_) (fun c_24 => absurd (by rw [i32_lt, nI_toInt (by omega), k32_6]; omega) c_24)
  refine xr_aload_n X 0 dX7_readPerson_33 rfl rfl ?_
  refine xr_callV X hko rfl kw_311 kw_313 kw_2 cw_X7_step [] (c_X7_step (p := (tE t L q)) hko hbt hB ht hL (by omega)) rfl rfl rfl rfl rfl rfl rfl dX7_readPerson_34 ?_
  refine xr_aload_n X 0 dX7_readPerson_37 rfl rfl ?_
  refine xr_callV X (xu_s _ _ _) rfl kw_389 kw_391 kw_7 cw_X7_kindAtHand [] (c_X7_kindAtHand (xu_s _ _ _) (xu_at (xne _ rfl) hbt) hB ht hL (by omega)) rfl rfl rfl rfl rfl rfl rfl dX7_readPerson_38 ?_
  refine xr_istore_n (lv' := [(1, .int (nI (kiW t L (tE t L q)))), (0, .ref (e + 13))]) X dX7_readPerson_41 rfl rfl rfl ?_
  refine xr_iload_n X 0 dX7_readPerson_42 rfl rfl ?_
  refine xr_if_ne (tgt := 52) X dX7_readPerson_43 (by decide) (fun _ => ?_) (fun c_43 => absurd c_43 (nI_ne0 (by omega) (by omega)))
  refine xr_aload_n X 1 dX7_readPerson_52 rfl rfl ?_
  refine xr_callV X (xu_s _ _ _) rfl kw_311 kw_313 kw_2 cw_X7_step [] (c_X7_step (p := (tE t L (tE t L q))) (xu_s _ _ _) (xu_at (xne _ rfl) hbt) hB ht hL (by omega)) rfl rfl rfl rfl rfl rfl rfl dX7_readPerson_53 ?_
  refine xr_heap (h' := (xu h (e + 13) (.inr (6, [.ref (e + 14), .int (nI L), .ref (e + 15), .int (nI n), .int (fa), .int (nI (tK t L (tE t L (tE t L q)))), .int (nI (tS t L (tE t L (tE t L q)))), .int (nI (tE t L (tE t L (tE t L q))))])))) (xu_uu _ _ _ _) ?_
  refine xr_aload_n X 1 dX7_readPerson_56 rfl rfl ?_
  refine xr_iconst (v := 5) X dX7_readPerson_57 (by decide) ?_
  refine xr_callV X (xu_s _ _ _) rfl kw_398 kw_400 kw_8 cw_X7_isNumberUpTo [.int 5] (c_X7_nut (hi := 5) (xu_s _ _ _) (xu_at (xne _ rfl) hbt) hB ht hL (by omega) (by omega) (by assumption) (by assumption)) rfl rfl rfl rfl rfl rfl rfl dX7_readPerson_58 ?_
  refine xr_if_ne (tgt := 66) X dX7_readPerson_61 (by decide) (fun _ => ?_) (fun c_61 => absurd c_61 (by decide))
  refine xr_aload_n X 1 dX7_readPerson_66 rfl rfl ?_
  refine xr_callV X (xu_s _ _ _) rfl kw_402 kw_404 kw_9 cw_X7_numberAtHand [] (c_X7_numberAtHand (xu_s _ _ _) (xu_at (xne _ rfl) hbt) hB ht hL (by omega) (by assumption)) rfl rfl rfl rfl rfl rfl rfl dX7_readPerson_67 ?_
  refine xr_istore_n (lv' := [(2, .int (nI (nuv t L (tE t L (tE t L q))))), (1, .int (nI (kiW t L (tE t L q)))), (0, .ref (e + 13))]) X dX7_readPerson_70 rfl rfl rfl ?_
  refine xr_aload_n X 2 dX7_readPerson_71 rfl rfl ?_
  refine xr_callV X (xu_s _ _ _) rfl kw_311 kw_313 kw_2 cw_X7_step [] (c_X7_step (p := (tE t L (tE t L (tE t L q)))) (xu_s _ _ _) (xu_at (xne _ rfl) hbt) hB ht hL (by omega)) rfl rfl rfl rfl rfl rfl rfl dX7_readPerson_72 ?_
  refine xr_heap (h' := (xu h (e + 13) (.inr (6, [.ref (e + 14), .int (nI L), .ref (e + 15), .int (nI n), .int (fa), .int (nI (tK t L (tE t L (tE t L (tE t L q))))), .int (nI (tS t L (tE t L (tE t L (tE t L q))))), .int (nI (tE t L (tE t L (tE t L (tE t L q)))))])))) (xu_uu _ _ _ _) ?_
  refine xr_aload_n X 2 dX7_readPerson_75 rfl rfl ?_
  refine xr_bipush (v := 9) X dX7_readPerson_76 (by decide) ?_
  refine xr_callV X (xu_s _ _ _) rfl kw_398 kw_400 kw_8 cw_X7_isNumberUpTo [.int 9] (c_X7_nut1 (hi := 9) (xu_s _ _ _) (xu_at (xne _ rfl) hbt) hB ht hL (by omega) (by omega) (by assumption)) rfl rfl rfl rfl rfl rfl rfl dX7_readPerson_78 ?_
  refine xr_heap (h' := (xu h (e + 13) (.inr (6, [.ref (e + 14), .int (nI L), .ref (e + 15), .int (nI n), .int (1), .int (nI (tK t L (tE t L (tE t L (tE t L q))))), .int (nI (tS t L (tE t L (tE t L (tE t L q))))), .int (nI (tE t L (tE t L (tE t L (tE t L q)))))])))) (xu_uu _ _ _ _) ?_
  refine xr_if_ne (tgt := 86) X dX7_readPerson_81 (by decide) (fun c_81 => absurd rfl c_81) (fun _ => ?_)
  refine xr_iconst (v := 0) X dX7_readPerson_84 (by decide) ?_
  exact xr_zret X rfl rfl rfl rfl rfl rfl rfl dX7_readPerson_85
set_option maxRecDepth 100000 in
theorem c_X7_rp_m2 {l : Launch} {Ω : xW} {h : xH} {sz : Nat} {e : Nat} {fa : Int32} {bt : Nat → Int32} {t : Nat → Nat} {L q n : Nat} {pf : Nat → Option Nat} (hko : h (e + 13) = some (kO e (nI L) (nI n) fa (nI (tK t L q)) (nI (tS t L q)) (nI (tE t L q)))) (hbt : h (e + 14) = some (.inl (.byte, 300, .inl bt))) (hB : ∀ q, q < L → bt q = sb (t q)) (ht : ∀ q, q < L → t q < 256) (hL : L ≤ 300) (hq : q ≤ L) (hpf : h (e + 15) = some (.inl (.object "EvePost$Person", 6, .inr (.inr (.inr (.inr pf)))))) (hn6 : n ≤ 6) (hw : wdP t L q wl_person = true) (h6 : n < 6) (hk : ¬ kiW t L (tE t L q) = 0) (h2 : tK t L (tE t L (tE t L q)) = 2) (hv : nuv t L (tE t L (tE t L q)) ≤ 5) (h3 : tK t L (tE t L (tE t L (tE t L q))) = 2) (hu : 9 < nuv t L (tE t L (tE t L (tE t L q)))) : xC l Ω yX7_readPerson cX7_readPerson 4 (some .boolean) 6 1 3 [.ref (e + 13)] h sz (some (.int 0)) (xu h (e + 13) (.inr (6, [.ref (e + 14), .int (nI L), .ref (e + 15), .int (nI n), .int (2), .int (nI (tK t L (tE t L (tE t L (tE t L q))))), .int (nI (tS t L (tE t L (tE t L (tE t L q))))), .int (nI (tE t L (tE t L (tE t L (tE t L q)))))]))) (sz) := by
  refine xC_of (lv := [(0, .ref (e + 13))]) pn_X7 rfl rfl (fun Γ X hΓ hbs => ?_)
  have X : xX Γ Ω cX7_readPerson 4 RX7 "readPerson" (some .boolean) 6 210 1 3 := X
  subst hΓ
  have r1 : (tE t L q) ≤ L := (tE_rng hq).2
  have r2 : (tE t L (tE t L q)) ≤ L := (tE_rng r1).2
  have r3 : (tE t L (tE t L (tE t L q))) ≤ L := (tE_rng r2).2
  have r4 : (tE t L (tE t L (tE t L (tE t L q)))) ≤ L := (tE_rng r3).2
  have n2 := nuv_lt t L (tE t L (tE t L q)) r2
  have n3 := nuv_lt t L (tE t L (tE t L (tE t L q))) r3
  have kw1 := kiW_le t L (tE t L q)
  have tk4 := tK_le t L (tE t L (tE t L (tE t L (tE t L q))))
  have r5 : (tE t L (tE t L (tE t L (tE t L (tE t L q))))) ≤ L := (tE_rng r4).2
  refine xr_aload_n X 0 dX7_readPerson_0 rfl rfl ?_
  refine xr_ldcS (i := 0) X rfl rfl dX7_readPerson_1 ?_
  refine xr_callV X hko rfl kw_333 kw_335 kw_5 cw_X7_isWord [.ref (Ω.2.2.1 0)] (c_X7_isWord (i := 0) hko hbt hB ht hL (by omega) (by omega)) rfl rfl rfl rfl rfl rfl rfl dX7_readPerson_3 ?_
  refine xr_if_ne (tgt := 15) X dX7_readPerson_6 (by decide) (fun _ => ?_) (fun c_6 => absurd c_6 (xb_1.mpr hw))
  refine xr_aload_n X 0 dX7_readPerson_15 rfl rfl ?_
  refine xr_get X fF_X7_25_6 hko rfl dX7_readPerson_16 ?_
  refine xr_aload_n X 0 dX7_readPerson_19 rfl rfl ?_
  refine xr_get X fF_X7_21_6 hko rfl dX7_readPerson_20 ?_
  refine xr_alen (v := 6) X hpf (show nI 6 = 6 by decide) dX7_readPerson_23 ?_
  refine xr_icmp_lt (tgt := 33) X dX7_readPerson_24 (by decide) (fun _ => ?_) (fun c_24 => absurd (by rw [i32_lt, nI_toInt (by omega), k32_6]; omega) c_24)
  refine xr_aload_n X 0 dX7_readPerson_33 rfl rfl ?_
  refine xr_callV X hko rfl kw_311 kw_313 kw_2 cw_X7_step [] (c_X7_step (p := (tE t L q)) hko hbt hB ht hL (by omega)) rfl rfl rfl rfl rfl rfl rfl dX7_readPerson_34 ?_
  refine xr_aload_n X 0 dX7_readPerson_37 rfl rfl ?_
  refine xr_callV X (xu_s _ _ _) rfl kw_389 kw_391 kw_7 cw_X7_kindAtHand [] (c_X7_kindAtHand (xu_s _ _ _) (xu_at (xne _ rfl) hbt) hB ht hL (by omega)) rfl rfl rfl rfl rfl rfl rfl dX7_readPerson_38 ?_
  refine xr_istore_n (lv' := [(1, .int (nI (kiW t L (tE t L q)))), (0, .ref (e + 13))]) X dX7_readPerson_41 rfl rfl rfl ?_
  refine xr_iload_n X 0 dX7_readPerson_42 rfl rfl ?_
  refine xr_if_ne (tgt := 52) X dX7_readPerson_43 (by decide) (fun _ => ?_) (fun c_43 => absurd c_43 (nI_ne0 (by omega) (by omega)))
  refine xr_aload_n X 1 dX7_readPerson_52 rfl rfl ?_
  refine xr_callV X (xu_s _ _ _) rfl kw_311 kw_313 kw_2 cw_X7_step [] (c_X7_step (p := (tE t L (tE t L q))) (xu_s _ _ _) (xu_at (xne _ rfl) hbt) hB ht hL (by omega)) rfl rfl rfl rfl rfl rfl rfl dX7_readPerson_53 ?_
  refine xr_heap (h' := (xu h (e + 13) (.inr (6, [.ref (e + 14), .int (nI L), .ref (e + 15), .int (nI n), .int (fa), .int (nI (tK t L (tE t L (tE t L q)))), .int (nI (tS t L (tE t L (tE t L q)))), .int (nI (tE t L (tE t L (tE t L q))))])))) (xu_uu _ _ _ _) ?_
  refine xr_aload_n X 1 dX7_readPerson_56 rfl rfl ?_
  refine xr_iconst (v := 5) X dX7_readPerson_57 (by decide) ?_
  refine xr_callV X (xu_s _ _ _) rfl kw_398 kw_400 kw_8 cw_X7_isNumberUpTo [.int 5] (c_X7_nut (hi := 5) (xu_s _ _ _) (xu_at (xne _ rfl) hbt) hB ht hL (by omega) (by omega) (by assumption) (by assumption)) rfl rfl rfl rfl rfl rfl rfl dX7_readPerson_58 ?_
  refine xr_if_ne (tgt := 66) X dX7_readPerson_61 (by decide) (fun _ => ?_) (fun c_61 => absurd c_61 (by decide))
  refine xr_aload_n X 1 dX7_readPerson_66 rfl rfl ?_
  refine xr_callV X (xu_s _ _ _) rfl kw_402 kw_404 kw_9 cw_X7_numberAtHand [] (c_X7_numberAtHand (xu_s _ _ _) (xu_at (xne _ rfl) hbt) hB ht hL (by omega) (by assumption)) rfl rfl rfl rfl rfl rfl rfl dX7_readPerson_67 ?_
  refine xr_istore_n (lv' := [(2, .int (nI (nuv t L (tE t L (tE t L q))))), (1, .int (nI (kiW t L (tE t L q)))), (0, .ref (e + 13))]) X dX7_readPerson_70 rfl rfl rfl ?_
  refine xr_aload_n X 2 dX7_readPerson_71 rfl rfl ?_
  refine xr_callV X (xu_s _ _ _) rfl kw_311 kw_313 kw_2 cw_X7_step [] (c_X7_step (p := (tE t L (tE t L (tE t L q)))) (xu_s _ _ _) (xu_at (xne _ rfl) hbt) hB ht hL (by omega)) rfl rfl rfl rfl rfl rfl rfl dX7_readPerson_72 ?_
  refine xr_heap (h' := (xu h (e + 13) (.inr (6, [.ref (e + 14), .int (nI L), .ref (e + 15), .int (nI n), .int (fa), .int (nI (tK t L (tE t L (tE t L (tE t L q))))), .int (nI (tS t L (tE t L (tE t L (tE t L q))))), .int (nI (tE t L (tE t L (tE t L (tE t L q)))))])))) (xu_uu _ _ _ _) ?_
  refine xr_aload_n X 2 dX7_readPerson_75 rfl rfl ?_
  refine xr_bipush (v := 9) X dX7_readPerson_76 (by decide) ?_
  refine xr_callV X (xu_s _ _ _) rfl kw_398 kw_400 kw_8 cw_X7_isNumberUpTo [.int 9] (c_X7_nut2 (hi := 9) (xu_s _ _ _) (xu_at (xne _ rfl) hbt) hB ht hL (by omega) (by omega) (by assumption) (by assumption)) rfl rfl rfl rfl rfl rfl rfl dX7_readPerson_78 ?_
  refine xr_heap (h' := (xu h (e + 13) (.inr (6, [.ref (e + 14), .int (nI L), .ref (e + 15), .int (nI n), .int (2), .int (nI (tK t L (tE t L (tE t L (tE t L q))))), .int (nI (tS t L (tE t L (tE t L (tE t L q))))), .int (nI (tE t L (tE t L (tE t L (tE t L q)))))])))) (xu_uu _ _ _ _) ?_
  refine xr_if_ne (tgt := 86) X dX7_readPerson_81 (by decide) (fun c_81 => absurd rfl c_81) (fun _ => ?_)
  refine xr_iconst (v := 0) X dX7_readPerson_84 (by decide) ?_
  exact xr_zret X rfl rfl rfl rfl rfl rfl rfl dX7_readPerson_85
set_option maxRecDepth 100000 in
theorem c_X7_rp_s {l : Launch} {Ω : xW} {h : xH} {sz : Nat} {e : Nat} {fa : Int32} {bt : Nat → Int32} {t : Nat → Nat} {L q n : Nat} {pf : Nat → Option Nat} (hko : h (e + 13) = some (kO e (nI L) (nI n) fa (nI (tK t L q)) (nI (tS t L q)) (nI (tE t L q)))) (hbt : h (e + 14) = some (.inl (.byte, 300, .inl bt))) (hB : ∀ q, q < L → bt q = sb (t q)) (ht : ∀ q, q < L → t q < 256) (hL : L ≤ 300) (hq : q ≤ L) (hpf : h (e + 15) = some (.inl (.object "EvePost$Person", 6, .inr (.inr (.inr (.inr pf)))))) (hn6 : n ≤ 6) (hw : wdP t L q wl_person = true) (h6 : n < 6) (hk : ¬ kiW t L (tE t L q) = 0) (h2 : tK t L (tE t L (tE t L q)) = 2) (hv : nuv t L (tE t L (tE t L q)) ≤ 5) (h3 : tK t L (tE t L (tE t L (tE t L q))) = 2) (hu : nuv t L (tE t L (tE t L (tE t L q))) ≤ 9) (h4 : ¬ tK t L (tE t L (tE t L (tE t L (tE t L q)))) = 3) : xC l Ω yX7_readPerson cX7_readPerson 4 (some .boolean) 6 1 3 [.ref (e + 13)] h sz (some (.int 0)) (xu h (e + 13) (.inr (6, [.ref (e + 14), .int (nI L), .ref (e + 15), .int (nI n), .int (1), .int (nI (tK t L (tE t L (tE t L (tE t L (tE t L q)))))), .int (nI (tS t L (tE t L (tE t L (tE t L (tE t L q)))))), .int (nI (tE t L (tE t L (tE t L (tE t L (tE t L q))))))]))) (sz) := by
  refine xC_of (lv := [(0, .ref (e + 13))]) pn_X7 rfl rfl (fun Γ X hΓ hbs => ?_)
  have X : xX Γ Ω cX7_readPerson 4 RX7 "readPerson" (some .boolean) 6 210 1 3 := X
  subst hΓ
  have r1 : (tE t L q) ≤ L := (tE_rng hq).2
  have r2 : (tE t L (tE t L q)) ≤ L := (tE_rng r1).2
  have r3 : (tE t L (tE t L (tE t L q))) ≤ L := (tE_rng r2).2
  have r4 : (tE t L (tE t L (tE t L (tE t L q)))) ≤ L := (tE_rng r3).2
  have n2 := nuv_lt t L (tE t L (tE t L q)) r2
  have n3 := nuv_lt t L (tE t L (tE t L (tE t L q))) r3
  have kw1 := kiW_le t L (tE t L q)
  have tk4 := tK_le t L (tE t L (tE t L (tE t L (tE t L q))))
  have r5 : (tE t L (tE t L (tE t L (tE t L (tE t L q))))) ≤ L := (tE_rng r4).2
  refine xr_aload_n X 0 dX7_readPerson_0 rfl rfl ?_
  refine xr_ldcS (i := 0) X rfl rfl dX7_readPerson_1 ?_
  refine xr_callV X hko rfl kw_333 kw_335 kw_5 cw_X7_isWord [.ref (Ω.2.2.1 0)] (c_X7_isWord (i := 0) hko hbt hB ht hL (by omega) (by omega)) rfl rfl rfl rfl rfl rfl rfl dX7_readPerson_3 ?_
  refine xr_if_ne (tgt := 15) X dX7_readPerson_6 (by decide) (fun _ => ?_) (fun c_6 => absurd c_6 (xb_1.mpr hw))
  refine xr_aload_n X 0 dX7_readPerson_15 rfl rfl ?_
  refine xr_get X fF_X7_25_6 hko rfl dX7_readPerson_16 ?_
  refine xr_aload_n X 0 dX7_readPerson_19 rfl rfl ?_
  refine xr_get X fF_X7_21_6 hko rfl dX7_readPerson_20 ?_
  refine xr_alen (v := 6) X hpf (show nI 6 = 6 by decide) dX7_readPerson_23 ?_
  refine xr_icmp_lt (tgt := 33) X dX7_readPerson_24 (by decide) (fun _ => ?_) (fun c_24 => absurd (by rw [i32_lt, nI_toInt (by omega), k32_6]; omega) c_24)
  refine xr_aload_n X 0 dX7_readPerson_33 rfl rfl ?_
  refine xr_callV X hko rfl kw_311 kw_313 kw_2 cw_X7_step [] (c_X7_step (p := (tE t L q)) hko hbt hB ht hL (by omega)) rfl rfl rfl rfl rfl rfl rfl dX7_readPerson_34 ?_
  refine xr_aload_n X 0 dX7_readPerson_37 rfl rfl ?_
  refine xr_callV X (xu_s _ _ _) rfl kw_389 kw_391 kw_7 cw_X7_kindAtHand [] (c_X7_kindAtHand (xu_s _ _ _) (xu_at (xne _ rfl) hbt) hB ht hL (by omega)) rfl rfl rfl rfl rfl rfl rfl dX7_readPerson_38 ?_
  refine xr_istore_n (lv' := [(1, .int (nI (kiW t L (tE t L q)))), (0, .ref (e + 13))]) X dX7_readPerson_41 rfl rfl rfl ?_
  refine xr_iload_n X 0 dX7_readPerson_42 rfl rfl ?_
  refine xr_if_ne (tgt := 52) X dX7_readPerson_43 (by decide) (fun _ => ?_) (fun c_43 => absurd c_43 (nI_ne0 (by omega) (by omega)))
  refine xr_aload_n X 1 dX7_readPerson_52 rfl rfl ?_
  refine xr_callV X (xu_s _ _ _) rfl kw_311 kw_313 kw_2 cw_X7_step [] (c_X7_step (p := (tE t L (tE t L q))) (xu_s _ _ _) (xu_at (xne _ rfl) hbt) hB ht hL (by omega)) rfl rfl rfl rfl rfl rfl rfl dX7_readPerson_53 ?_
  refine xr_heap (h' := (xu h (e + 13) (.inr (6, [.ref (e + 14), .int (nI L), .ref (e + 15), .int (nI n), .int (fa), .int (nI (tK t L (tE t L (tE t L q)))), .int (nI (tS t L (tE t L (tE t L q)))), .int (nI (tE t L (tE t L (tE t L q))))])))) (xu_uu _ _ _ _) ?_
  refine xr_aload_n X 1 dX7_readPerson_56 rfl rfl ?_
  refine xr_iconst (v := 5) X dX7_readPerson_57 (by decide) ?_
  refine xr_callV X (xu_s _ _ _) rfl kw_398 kw_400 kw_8 cw_X7_isNumberUpTo [.int 5] (c_X7_nut (hi := 5) (xu_s _ _ _) (xu_at (xne _ rfl) hbt) hB ht hL (by omega) (by omega) (by assumption) (by assumption)) rfl rfl rfl rfl rfl rfl rfl dX7_readPerson_58 ?_
  refine xr_if_ne (tgt := 66) X dX7_readPerson_61 (by decide) (fun _ => ?_) (fun c_61 => absurd c_61 (by decide))
  refine xr_aload_n X 1 dX7_readPerson_66 rfl rfl ?_
  refine xr_callV X (xu_s _ _ _) rfl kw_402 kw_404 kw_9 cw_X7_numberAtHand [] (c_X7_numberAtHand (xu_s _ _ _) (xu_at (xne _ rfl) hbt) hB ht hL (by omega) (by assumption)) rfl rfl rfl rfl rfl rfl rfl dX7_readPerson_67 ?_
  refine xr_istore_n (lv' := [(2, .int (nI (nuv t L (tE t L (tE t L q))))), (1, .int (nI (kiW t L (tE t L q)))), (0, .ref (e + 13))]) X dX7_readPerson_70 rfl rfl rfl ?_
  refine xr_aload_n X 2 dX7_readPerson_71 rfl rfl ?_
  refine xr_callV X (xu_s _ _ _) rfl kw_311 kw_313 kw_2 cw_X7_step [] (c_X7_step (p := (tE t L (tE t L (tE t L q)))) (xu_s _ _ _) (xu_at (xne _ rfl) hbt) hB ht hL (by omega)) rfl rfl rfl rfl rfl rfl rfl dX7_readPerson_72 ?_
  refine xr_heap (h' := (xu h (e + 13) (.inr (6, [.ref (e + 14), .int (nI L), .ref (e + 15), .int (nI n), .int (fa), .int (nI (tK t L (tE t L (tE t L (tE t L q))))), .int (nI (tS t L (tE t L (tE t L (tE t L q))))), .int (nI (tE t L (tE t L (tE t L (tE t L q)))))])))) (xu_uu _ _ _ _) ?_
  refine xr_aload_n X 2 dX7_readPerson_75 rfl rfl ?_
  refine xr_bipush (v := 9) X dX7_readPerson_76 (by decide) ?_
  refine xr_callV X (xu_s _ _ _) rfl kw_398 kw_400 kw_8 cw_X7_isNumberUpTo [.int 9] (c_X7_nut (hi := 9) (xu_s _ _ _) (xu_at (xne _ rfl) hbt) hB ht hL (by omega) (by omega) (by assumption) (by assumption)) rfl rfl rfl rfl rfl rfl rfl dX7_readPerson_78 ?_
  refine xr_if_ne (tgt := 86) X dX7_readPerson_81 (by decide) (fun _ => ?_) (fun c_81 => absurd c_81 (by decide))
  refine xr_aload_n X 2 dX7_readPerson_86 rfl rfl ?_
  refine xr_callV X (xu_s _ _ _) rfl kw_402 kw_404 kw_9 cw_X7_numberAtHand [] (c_X7_numberAtHand (xu_s _ _ _) (xu_at (xne _ rfl) hbt) hB ht hL (by omega) (by assumption)) rfl rfl rfl rfl rfl rfl rfl dX7_readPerson_87 ?_
  refine xr_istore_n (lv' := [(3, .int (nI (nuv t L (tE t L (tE t L (tE t L q)))))), (2, .int (nI (nuv t L (tE t L (tE t L q))))), (1, .int (nI (kiW t L (tE t L q)))), (0, .ref (e + 13))]) X dX7_readPerson_90 rfl rfl rfl ?_
  refine xr_aload_n X 3 dX7_readPerson_91 rfl rfl ?_
  refine xr_callV X (xu_s _ _ _) rfl kw_311 kw_313 kw_2 cw_X7_step [] (c_X7_step (p := (tE t L (tE t L (tE t L (tE t L q))))) (xu_s _ _ _) (xu_at (xne _ rfl) hbt) hB ht hL (by omega)) rfl rfl rfl rfl rfl rfl rfl dX7_readPerson_92 ?_
  refine xr_heap (h' := (xu h (e + 13) (.inr (6, [.ref (e + 14), .int (nI L), .ref (e + 15), .int (nI n), .int (fa), .int (nI (tK t L (tE t L (tE t L (tE t L (tE t L q)))))), .int (nI (tS t L (tE t L (tE t L (tE t L (tE t L q)))))), .int (nI (tE t L (tE t L (tE t L (tE t L (tE t L q))))))])))) (xu_uu _ _ _ _) ?_
  refine xr_aload_n X 3 dX7_readPerson_95 rfl rfl ?_
  refine xr_get X fF_X7_31_6 (xu_s _ _ _) rfl dX7_readPerson_96 ?_
  refine xr_iconst (v := 3) X dX7_readPerson_99 (by decide) ?_
  refine xr_icmp_eq (tgt := 109) X dX7_readPerson_100 (by decide) (fun c_100 => absurd c_100 (by rw [i32_eq, nI_toInt (by omega), k32_3]; omega)) (fun _ => ?_)
  refine xr_aload_n X 3 dX7_readPerson_103 rfl rfl ?_
  refine xr_iconst (v := 1) X dX7_readPerson_104 (by decide) ?_
  refine xr_callV X (xu_s _ _ _) rfl kw_385 kw_387 kw_6 cw_X7_faulty [.int 1] (c_X7_faulty (xu_s _ _ _)) rfl rfl rfl rfl rfl rfl rfl dX7_readPerson_105 ?_
  refine xr_heap (h' := (xu h (e + 13) (.inr (6, [.ref (e + 14), .int (nI L), .ref (e + 15), .int (nI n), .int (1), .int (nI (tK t L (tE t L (tE t L (tE t L (tE t L q)))))), .int (nI (tS t L (tE t L (tE t L (tE t L (tE t L q)))))), .int (nI (tE t L (tE t L (tE t L (tE t L (tE t L q))))))])))) (xu_uu _ _ _ _) ?_
  exact xr_zret X rfl rfl rfl rfl rfl rfl rfl dX7_readPerson_108
set_option maxRecDepth 100000 in
theorem c_X7_rp_ok {l : Launch} {Ω : xW} {h : xH} {sz : Nat} {e : Nat} {fa : Int32} {bt : Nat → Int32} {t : Nat → Nat} {L q n : Nat} {pf : Nat → Option Nat} (hko : h (e + 13) = some (kO e (nI L) (nI n) fa (nI (tK t L q)) (nI (tS t L q)) (nI (tE t L q)))) (hbt : h (e + 14) = some (.inl (.byte, 300, .inl bt))) (hB : ∀ q, q < L → bt q = sb (t q)) (ht : ∀ q, q < L → t q < 256) (hL : L ≤ 300) (hq : q ≤ L) (hpf : h (e + 15) = some (.inl (.object "EvePost$Person", 6, .inr (.inr (.inr (.inr pf)))))) (hn6 : n ≤ 6) (hw : wdP t L q wl_person = true) (h6 : n < 6) (hk : ¬ kiW t L (tE t L q) = 0) (h2 : tK t L (tE t L (tE t L q)) = 2) (hv : nuv t L (tE t L (tE t L q)) ≤ 5) (h3 : tK t L (tE t L (tE t L (tE t L q))) = 2) (hu : nuv t L (tE t L (tE t L (tE t L q))) ≤ 9) (h4 : tK t L (tE t L (tE t L (tE t L (tE t L q)))) = 3) (hsz : e + 16 ≤ sz) : xC l Ω yX7_readPerson cX7_readPerson 4 (some .boolean) 6 1 3 [.ref (e + 13)] h sz (some (.int 1)) (xu (xu (xu h (e + 13) (.inr (6, [.ref (e + 14), .int (nI L), .ref (e + 15), .int (nI (n + 1)), .int (fa), .int (nI (tK t L (tE t L (tE t L (tE t L (tE t L (tE t L q))))))), .int (nI (tS t L (tE t L (tE t L (tE t L (tE t L (tE t L q))))))), .int (nI (tE t L (tE t L (tE t L (tE t L (tE t L (tE t L q)))))))]))) sz (.inr (pCi (kiW t L (tE t L q)), [.int (nI n), .int (nI (nuv t L (tE t L (tE t L q)))), .int (nI (nuv t L (tE t L (tE t L (tE t L q)))))]))) (e + 15) (.inl (.object "EvePost$Person", 6, .inr (.inr (.inr (.inr (va_up pf n (some sz)))))))) (sz + 1) := by
  refine xC_of (lv := [(0, .ref (e + 13))]) pn_X7 rfl rfl (fun Γ X hΓ hbs => ?_)
  have X : xX Γ Ω cX7_readPerson 4 RX7 "readPerson" (some .boolean) 6 210 1 3 := X
  subst hΓ
  have r1 : (tE t L q) ≤ L := (tE_rng hq).2
  have r2 : (tE t L (tE t L q)) ≤ L := (tE_rng r1).2
  have r3 : (tE t L (tE t L (tE t L q))) ≤ L := (tE_rng r2).2
  have r4 : (tE t L (tE t L (tE t L (tE t L q)))) ≤ L := (tE_rng r3).2
  have n2 := nuv_lt t L (tE t L (tE t L q)) r2
  have n3 := nuv_lt t L (tE t L (tE t L (tE t L q))) r3
  have kw1 := kiW_le t L (tE t L q)
  have tk4 := tK_le t L (tE t L (tE t L (tE t L (tE t L q))))
  have r5 : (tE t L (tE t L (tE t L (tE t L (tE t L q))))) ≤ L := (tE_rng r4).2
  refine xr_aload_n X 0 dX7_readPerson_0 rfl rfl ?_
  refine xr_ldcS (i := 0) X rfl rfl dX7_readPerson_1 ?_
  refine xr_callV X hko rfl kw_333 kw_335 kw_5 cw_X7_isWord [.ref (Ω.2.2.1 0)] (c_X7_isWord (i := 0) hko hbt hB ht hL (by omega) (by omega)) rfl rfl rfl rfl rfl rfl rfl dX7_readPerson_3 ?_
  refine xr_if_ne (tgt := 15) X dX7_readPerson_6 (by decide) (fun _ => ?_) (fun c_6 => absurd c_6 (xb_1.mpr hw))
  refine xr_aload_n X 0 dX7_readPerson_15 rfl rfl ?_
  refine xr_get X fF_X7_25_6 hko rfl dX7_readPerson_16 ?_
  refine xr_aload_n X 0 dX7_readPerson_19 rfl rfl ?_
  refine xr_get X fF_X7_21_6 hko rfl dX7_readPerson_20 ?_
  refine xr_alen (v := 6) X hpf (show nI 6 = 6 by decide) dX7_readPerson_23 ?_
  refine xr_icmp_lt (tgt := 33) X dX7_readPerson_24 (by decide) (fun _ => ?_) (fun c_24 => absurd (by rw [i32_lt, nI_toInt (by omega), k32_6]; omega) c_24)
  refine xr_aload_n X 0 dX7_readPerson_33 rfl rfl ?_
  refine xr_callV X hko rfl kw_311 kw_313 kw_2 cw_X7_step [] (c_X7_step (p := (tE t L q)) hko hbt hB ht hL (by omega)) rfl rfl rfl rfl rfl rfl rfl dX7_readPerson_34 ?_
  refine xr_aload_n X 0 dX7_readPerson_37 rfl rfl ?_
  refine xr_callV X (xu_s _ _ _) rfl kw_389 kw_391 kw_7 cw_X7_kindAtHand [] (c_X7_kindAtHand (xu_s _ _ _) (xu_at (xne _ rfl) hbt) hB ht hL (by omega)) rfl rfl rfl rfl rfl rfl rfl dX7_readPerson_38 ?_
  refine xr_istore_n (lv' := [(1, .int (nI (kiW t L (tE t L q)))), (0, .ref (e + 13))]) X dX7_readPerson_41 rfl rfl rfl ?_
  refine xr_iload_n X 0 dX7_readPerson_42 rfl rfl ?_
  refine xr_if_ne (tgt := 52) X dX7_readPerson_43 (by decide) (fun _ => ?_) (fun c_43 => absurd c_43 (nI_ne0 (by omega) (by omega)))
  refine xr_aload_n X 1 dX7_readPerson_52 rfl rfl ?_
  refine xr_callV X (xu_s _ _ _) rfl kw_311 kw_313 kw_2 cw_X7_step [] (c_X7_step (p := (tE t L (tE t L q))) (xu_s _ _ _) (xu_at (xne _ rfl) hbt) hB ht hL (by omega)) rfl rfl rfl rfl rfl rfl rfl dX7_readPerson_53 ?_
  refine xr_heap (h' := (xu h (e + 13) (.inr (6, [.ref (e + 14), .int (nI L), .ref (e + 15), .int (nI n), .int (fa), .int (nI (tK t L (tE t L (tE t L q)))), .int (nI (tS t L (tE t L (tE t L q)))), .int (nI (tE t L (tE t L (tE t L q))))])))) (xu_uu _ _ _ _) ?_
  refine xr_aload_n X 1 dX7_readPerson_56 rfl rfl ?_
  refine xr_iconst (v := 5) X dX7_readPerson_57 (by decide) ?_
  refine xr_callV X (xu_s _ _ _) rfl kw_398 kw_400 kw_8 cw_X7_isNumberUpTo [.int 5] (c_X7_nut (hi := 5) (xu_s _ _ _) (xu_at (xne _ rfl) hbt) hB ht hL (by omega) (by omega) (by assumption) (by assumption)) rfl rfl rfl rfl rfl rfl rfl dX7_readPerson_58 ?_
  refine xr_if_ne (tgt := 66) X dX7_readPerson_61 (by decide) (fun _ => ?_) (fun c_61 => absurd c_61 (by decide))
  refine xr_aload_n X 1 dX7_readPerson_66 rfl rfl ?_
  refine xr_callV X (xu_s _ _ _) rfl kw_402 kw_404 kw_9 cw_X7_numberAtHand [] (c_X7_numberAtHand (xu_s _ _ _) (xu_at (xne _ rfl) hbt) hB ht hL (by omega) (by assumption)) rfl rfl rfl rfl rfl rfl rfl dX7_readPerson_67 ?_
  refine xr_istore_n (lv' := [(2, .int (nI (nuv t L (tE t L (tE t L q))))), (1, .int (nI (kiW t L (tE t L q)))), (0, .ref (e + 13))]) X dX7_readPerson_70 rfl rfl rfl ?_
  refine xr_aload_n X 2 dX7_readPerson_71 rfl rfl ?_
  refine xr_callV X (xu_s _ _ _) rfl kw_311 kw_313 kw_2 cw_X7_step [] (c_X7_step (p := (tE t L (tE t L (tE t L q)))) (xu_s _ _ _) (xu_at (xne _ rfl) hbt) hB ht hL (by omega)) rfl rfl rfl rfl rfl rfl rfl dX7_readPerson_72 ?_
  refine xr_heap (h' := (xu h (e + 13) (.inr (6, [.ref (e + 14), .int (nI L), .ref (e + 15), .int (nI n), .int (fa), .int (nI (tK t L (tE t L (tE t L (tE t L q))))), .int (nI (tS t L (tE t L (tE t L (tE t L q))))), .int (nI (tE t L (tE t L (tE t L (tE t L q)))))])))) (xu_uu _ _ _ _) ?_
  refine xr_aload_n X 2 dX7_readPerson_75 rfl rfl ?_
  refine xr_bipush (v := 9) X dX7_readPerson_76 (by decide) ?_
  refine xr_callV X (xu_s _ _ _) rfl kw_398 kw_400 kw_8 cw_X7_isNumberUpTo [.int 9] (c_X7_nut (hi := 9) (xu_s _ _ _) (xu_at (xne _ rfl) hbt) hB ht hL (by omega) (by omega) (by assumption) (by assumption)) rfl rfl rfl rfl rfl rfl rfl dX7_readPerson_78 ?_
  refine xr_if_ne (tgt := 86) X dX7_readPerson_81 (by decide) (fun _ => ?_) (fun c_81 => absurd c_81 (by decide))
  refine xr_aload_n X 2 dX7_readPerson_86 rfl rfl ?_
  refine xr_callV X (xu_s _ _ _) rfl kw_402 kw_404 kw_9 cw_X7_numberAtHand [] (c_X7_numberAtHand (xu_s _ _ _) (xu_at (xne _ rfl) hbt) hB ht hL (by omega) (by assumption)) rfl rfl rfl rfl rfl rfl rfl dX7_readPerson_87 ?_
  refine xr_istore_n (lv' := [(3, .int (nI (nuv t L (tE t L (tE t L (tE t L q)))))), (2, .int (nI (nuv t L (tE t L (tE t L q))))), (1, .int (nI (kiW t L (tE t L q)))), (0, .ref (e + 13))]) X dX7_readPerson_90 rfl rfl rfl ?_
  refine xr_aload_n X 3 dX7_readPerson_91 rfl rfl ?_
  refine xr_callV X (xu_s _ _ _) rfl kw_311 kw_313 kw_2 cw_X7_step [] (c_X7_step (p := (tE t L (tE t L (tE t L (tE t L q))))) (xu_s _ _ _) (xu_at (xne _ rfl) hbt) hB ht hL (by omega)) rfl rfl rfl rfl rfl rfl rfl dX7_readPerson_92 ?_
  refine xr_heap (h' := (xu h (e + 13) (.inr (6, [.ref (e + 14), .int (nI L), .ref (e + 15), .int (nI n), .int (fa), .int (nI (tK t L (tE t L (tE t L (tE t L (tE t L q)))))), .int (nI (tS t L (tE t L (tE t L (tE t L (tE t L q)))))), .int (nI (tE t L (tE t L (tE t L (tE t L (tE t L q))))))])))) (xu_uu _ _ _ _) ?_
  refine xr_aload_n X 3 dX7_readPerson_95 rfl rfl ?_
  refine xr_get X fF_X7_31_6 (xu_s _ _ _) rfl dX7_readPerson_96 ?_
  refine xr_iconst (v := 3) X dX7_readPerson_99 (by decide) ?_
  refine xr_icmp_eq (tgt := 109) X dX7_readPerson_100 (by decide) (fun _ => ?_) (fun c_100 => absurd (by rw [h4]; rfl) c_100)
  refine xr_aload_n X 3 dX7_readPerson_109 rfl rfl ?_
  refine xr_get X fF_X7_21_6 (xu_s _ _ _) rfl dX7_readPerson_110 ?_
  refine xr_aload_n X 3 dX7_readPerson_113 rfl rfl ?_
  refine xr_get X fF_X7_25_6 (xu_s _ _ _) rfl dX7_readPerson_114 ?_
  refine xr_iload_n X 2 dX7_readPerson_117 rfl rfl ?_
  refine xr_aload_n X 3 dX7_readPerson_118 rfl rfl ?_
  refine xr_get X fF_X7_25_6 (xu_s _ _ _) rfl dX7_readPerson_119 ?_
  refine xr_iload_n X 1 dX7_readPerson_122 rfl rfl ?_
  refine xr_iload_n X 0 dX7_readPerson_123 rfl rfl ?_
  refine xr_callS X kw_406 kw_407 cw_X7_newPerson [.int (nI (kiW t L (tE t L q))), .int (nI n), .int (nI (nuv t L (tE t L (tE t L q)))), .int (nI (nuv t L (tE t L (tE t L (tE t L q)))))] (c_X7_newPerson (K := (kiW t L (tE t L q))) (by omega) (by omega)) rfl rfl rfl rfl rfl rfl rfl dX7_readPerson_124 ?_
  obtain ⟨r9, hr9, hc9⟩ := pC_cast (k := (kiW t L (tE t L q))) (by omega) (by omega)
  refine xr_aast (j := n) X (xu_at (by omega) (xu_at (xne _ rfl) hpf)) (xu_s _ _ _) hr9 (Or.inr hc9) (xI_n (by omega) (by omega)) dX7_readPerson_127 ?_
  refine xr_aload_n X 3 dX7_readPerson_128 rfl rfl ?_
  refine xr_dup X dX7_readPerson_129 rfl ?_
  refine xr_get X fF_X7_25_6 (xu_at (xne _ rfl) (xu_at (by omega) (xu_s _ _ _))) rfl dX7_readPerson_130 ?_
  refine xr_iconst (v := 1) X dX7_readPerson_133 (by decide) ?_
  refine xr_iadd X dX7_readPerson_134 ?_
  refine xr_top (y := (nI (n + 1))) (nI_1 n) ?_
  refine xr_put (fs' := [.ref (e + 14), .int (nI L), .ref (e + 15), .int (nI (n + 1)), .int (fa), .int (nI (tK t L (tE t L (tE t L (tE t L (tE t L q)))))), .int (nI (tS t L (tE t L (tE t L (tE t L (tE t L q)))))), .int (nI (tE t L (tE t L (tE t L (tE t L (tE t L q))))))]) X (fW_X7_25_6 _) (xu_at (xne _ rfl) (xu_at (by omega) (xu_s _ _ _))) rfl rfl rfl rfl dX7_readPerson_135 ?_
  refine xr_heap (h' := (xu (xu (xu h (e + 13) (.inr (6, [.ref (e + 14), .int (nI L), .ref (e + 15), .int (nI (n + 1)), .int (fa), .int (nI (tK t L (tE t L (tE t L (tE t L (tE t L q)))))), .int (nI (tS t L (tE t L (tE t L (tE t L (tE t L q)))))), .int (nI (tE t L (tE t L (tE t L (tE t L (tE t L q))))))]))) sz (.inr (pCi (kiW t L (tE t L q)), [.int (nI n), .int (nI (nuv t L (tE t L (tE t L q)))), .int (nI (nuv t L (tE t L (tE t L (tE t L q)))))]))) (e + 15) (.inl (.object "EvePost$Person", 6, .inr (.inr (.inr (.inr (va_up pf n (some sz))))))))) (xu_in (xne _ rfl) (xu_in (by omega) (xu_uu _ _ _ _))) ?_
  refine xr_aload_n X 3 dX7_readPerson_138 rfl rfl ?_
  refine xr_callV X (xu_at (xne _ rfl) (xu_at (by omega) (xu_s _ _ _))) rfl kw_311 kw_313 kw_2 cw_X7_step [] (c_X7_step (p := (tE t L (tE t L (tE t L (tE t L (tE t L q)))))) (xu_at (xne _ rfl) (xu_at (by omega) (xu_s _ _ _))) (xu_at (xne _ rfl) (xu_at (by omega) (xu_at (xne _ rfl) hbt))) hB ht hL (by omega)) rfl rfl rfl rfl rfl rfl rfl dX7_readPerson_139 ?_
  refine xr_heap (h' := (xu (xu (xu h (e + 13) (.inr (6, [.ref (e + 14), .int (nI L), .ref (e + 15), .int (nI (n + 1)), .int (fa), .int (nI (tK t L (tE t L (tE t L (tE t L (tE t L (tE t L q))))))), .int (nI (tS t L (tE t L (tE t L (tE t L (tE t L (tE t L q))))))), .int (nI (tE t L (tE t L (tE t L (tE t L (tE t L (tE t L q)))))))]))) sz (.inr (pCi (kiW t L (tE t L q)), [.int (nI n), .int (nI (nuv t L (tE t L (tE t L q)))), .int (nI (nuv t L (tE t L (tE t L (tE t L q)))))]))) (e + 15) (.inl (.object "EvePost$Person", 6, .inr (.inr (.inr (.inr (va_up pf n (some sz))))))))) (xu_in (xne _ rfl) (xu_in (by omega) (xu_uu _ _ _ _))) ?_
  refine xr_iconst (v := 1) X dX7_readPerson_142 (by decide) ?_
  exact xr_zret X rfl rfl rfl rfl rfl rfl rfl dX7_readPerson_143
set_option maxRecDepth 100000 in
theorem c_X7_hasRoom {l : Launch} {Ω : xW} {h : xH} {sz : Nat} {e : Nat} {pr fa tk fi be : Int32} {bt : Nat → Int32} {L : Nat} {n : Int32} (hko : h (e + 13) = some (kO e (nI L) pr fa tk fi be)) (hbt : h (e + 14) = some (.inl (.byte, 300, .inl bt))) (hL : L ≤ 300) : xC l Ω yX7_hasRoom cX7_hasRoom 2 (some .boolean) 0 0 0 [.ref (e + 13), .int n] h sz (some (.int (xb (decide (n.toInt + L ≤ 300))))) h (sz) := by
  refine xC_of (lv := [(0, .ref (e + 13)), (1, .int n)]) pn_X7 rfl rfl (fun Γ X hΓ hbs => ?_)
  have X : xX Γ Ω cX7_hasRoom 2 RX7 "hasRoom" (some .boolean) 0 0 0 0 := X
  subst hΓ
  refine xr_iload_n X 1 dX7_hasRoom_0 rfl rfl ?_
  refine xr_aload_n X 0 dX7_hasRoom_1 rfl rfl ?_
  refine xr_get X fF_X7_11_6 hko rfl dX7_hasRoom_2 ?_
  refine xr_alen (v := 300) X hbt (show nI 300 = 300 by decide) dX7_hasRoom_5 ?_
  refine xr_aload_n X 0 dX7_hasRoom_6 rfl rfl ?_
  refine xr_get X fF_X7_15_6 hko rfl dX7_hasRoom_7 ?_
  refine xr_isub X dX7_hasRoom_10 ?_
  refine xr_top (y := (nI (300 - L))) (by rw [show (300 : Int32) = nI 300 from rfl, pk_sub (by omega)]) ?_
  refine xr_icmp_gt (tgt := 18) X dX7_hasRoom_11 (by decide) (fun c_11 => ?_) (fun c_11 => ?_)
  · have c_11 := i32_lt.mp c_11
    (try simp (disch := omega) only [nI_toInt, i32_add, i32_sub, i32_mul, i64_addl, i32_l, k32_300] at c_11)
    refine xr_iconst (v := 0) X dX7_hasRoom_18 (by decide) ?_
    exact xr_zret X rfl rfl (by first | exact xbT (by omega) | exact xbF (by omega)) rfl rfl rfl rfl dX7_hasRoom_19
  · have c_11 := mt i32_lt.mpr c_11
    (try simp (disch := omega) only [nI_toInt, i32_add, i32_sub, i32_mul, i64_addl, i32_l, k32_300] at c_11)
    refine xr_iconst (v := 1) X dX7_hasRoom_14 (by decide) ?_
    refine xr_goto (tgt := 19) X dX7_hasRoom_15 (by decide) ?_
    exact xr_zret X rfl rfl (by first | exact xbT (by omega) | exact xbF (by omega)) rfl rfl rfl rfl dX7_hasRoom_19
theorem sbv (w : Int64) (e : Nat) (he : e < 8) : (((w.toUInt64 >>> (((8 : Int32) * nI e).toInt64.toUInt64 &&& Int64.toUInt64 63)).toInt64).toInt32).toInt8.toInt32 = sb (fb w e) := by
  have hx : ((((w.toUInt64 >>> (((8 : Int32) * nI e).toInt64.toUInt64 &&& Int64.toUInt64 63)).toInt64).toInt32).toInt8) = (nI (fb w e)).toInt8 := by
    apply Int8.toBitVec_inj.mp
    show ((((w.toBitVec >>> ((((8 : Int32) * nI e).toInt64.toUInt64 &&& Int64.toUInt64 63).toBitVec % 64)).signExtend 32).signExtend 8)) = ((BitVec.ofNat 32 (fb w e)).signExtend 8)
    rw [ush8 e he]
    apply BitVec.eq_of_getLsbD_eq
    intro i hi
    rw [BitVec.getLsbD_signExtend, BitVec.getLsbD_signExtend, BitVec.getLsbD_signExtend, BitVec.getLsbD_ofNat, fb_bit]
    rw [if_pos (show i < 32 by omega), if_pos (show i < 64 by omega), if_pos (show i < 32 by omega)]
    rw [BitVec.ushiftRight_eq', BitVec.getLsbD_ushiftRight]
    have e1 : (BitVec.ofNat 64 (8 * e)).toNat = 8 * e := by simp; omega
    rw [e1]
    simp [hi, show i < 32 by omega]
  rw [hx]
  rfl
set_option maxRecDepth 100000 in
theorem l_X7_append {Γ : xΓ} {Ω : xW} {h : xH} {sz : Nat} (X : xX Γ Ω cX7_append 5 RX7 "append" (some .int) 0 0 0 0) {e : Nat} {pr fa tk fi be : Int32} {bt : Nat → Int32} {tn : Nat} {w : Int64} {n : Int32} (hko : h (e + 13) = some (kO e (nI tn) pr fa tk fi be)) (hbt : h (e + 14) = some (.inl (.byte, 300, .inl bt))) (hn : 1 ≤ n.toInt ∧ n.toInt ≤ 8) (ht2 : tn + n.toNatClampNeg ≤ 300) : ∀ (j k : Nat) (x : Int32), k + j = n.toNatClampNeg → x.toInt = (n.toNatClampNeg : Int) - 1 - k → xG Γ Ω 5 (xQ Γ Ω (some (.int (nI (tn + n.toNatClampNeg)))) (xu (xu h (e + 14) (.inl (.byte, 300, .inl (va_cpy (fun q => sb (fb w (n.toNatClampNeg - 1 - q))) bt 0 tn n.toNatClampNeg)))) (e + 13) (.inr (6, [.ref (e + 14), .int (nI (tn + n.toNatClampNeg)), .ref (e + 15), .int (pr), .int (fa), .int (tk), .int (fi), .int (be)]))) (sz) 0 0) 5 [(4, .int x), (0, .ref (e + 13)), (1, .long w), (3, .int n)] ([]) (xu (xu h (e + 14) (.inl (.byte, 300, .inl (va_cpy (fun q => sb (fb w (n.toNatClampNeg - 1 - q))) bt 0 tn k)))) (e + 13) (.inr (6, [.ref (e + 14), .int (nI (tn + k)), .ref (e + 15), .int (pr), .int (fa), .int (tk), .int (fi), .int (be)]))) sz 0 0 := by
  intro j0
  induction j0 with
  | zero =>
    intro k x hk hx
    have ek : k = n.toNatClampNeg := by omega
    refine xr_iload X 0 dX7_append_5 rfl ?_
    refine xr_if_lt (tgt := 56) X dX7_append_7 (by decide) (fun _ => ?_) (fun c_7 => absurd (by rw [i32_lt, k32_0]; omega) c_7)
    refine xr_aload_n X 1 dX7_append_56 rfl rfl ?_
    refine xr_get X fF_X7_15_6 (xu_s _ _ _) rfl dX7_append_57 ?_
    exact xr_iret X rfl (by rw [ek]) (by rw [ek]) rfl rfl rfl dX7_append_60
  | succ j0 ih =>
    intro k x hk hx
    have lk : k < n.toNatClampNeg := by omega
    have enn := (i32_tn (x := n) (by omega)).2
    refine xr_iload X 0 dX7_append_5 rfl ?_
    refine xr_if_lt (tgt := 56) X dX7_append_7 (by decide) (fun c_7 => absurd c_7 (by rw [i32_lt, k32_0]; omega)) (fun _ => ?_)
    refine xr_aload_n X 1 dX7_append_10 rfl rfl ?_
    refine xr_get X fF_X7_15_6 (xu_s _ _ _) rfl dX7_append_11 ?_
    refine xr_aload_n X 1 dX7_append_14 rfl rfl ?_
    refine xr_get X fF_X7_11_6 (xu_s _ _ _) rfl dX7_append_15 ?_
    refine xr_alen (v := 300) X (xu_at (xne _ rfl) (xu_s _ _ _)) (show nI 300 = 300 by decide) dX7_append_18 ?_
    refine xr_icmp_ge (tgt := 56) X dX7_append_19 (by decide) (fun c_19 => absurd c_19 (by rw [i32_le, k32_300, nI_toInt (by omega)]; omega)) (fun _ => ?_)
    refine xr_aload_n X 1 dX7_append_22 rfl rfl ?_
    refine xr_get X fF_X7_11_6 (xu_s _ _ _) rfl dX7_append_23 ?_
    refine xr_aload_n X 1 dX7_append_26 rfl rfl ?_
    refine xr_get X fF_X7_15_6 (xu_s _ _ _) rfl dX7_append_27 ?_
    refine xr_lload_n X 2 dX7_append_30 rfl rfl ?_
    refine xr_bipush (v := 8) X dX7_append_31 (by decide) ?_
    refine xr_iload X 0 dX7_append_33 rfl ?_
    refine xr_top (y := (nI (n.toNatClampNeg - 1 - k))) (by rw [i32_eq, nI_toInt (by omega)]; omega) ?_
    refine xr_imul X dX7_append_35 ?_
    refine xr_lushr X dX7_append_36 ?_
    refine xr_l2i X dX7_append_37 ?_
    refine xr_i2b X dX7_append_38 ?_
    refine xr_top (y := (sb (fb w (n.toNatClampNeg - 1 - k)))) (sbv w _ (by omega)) ?_
    refine xr_bast (j := (tn + k)) X (xu_at (xne _ rfl) (xu_s _ _ _)) (xI_n (by omega) (by omega)) dX7_append_39 ?_
    refine xr_heap (h' := (xu (xu h (e + 14) (.inl (.byte, 300, .inl (upd (va_cpy (fun q => sb (fb w (n.toNatClampNeg - 1 - q))) bt 0 tn k) (tn + k) (vp_nar .byte (sb (fb w (n.toNatClampNeg - 1 - k)))))))) (e + 13) (.inr (6, [.ref (e + 14), .int (nI (tn + k)), .ref (e + 15), .int (pr), .int (fa), .int (tk), .int (fi), .int (be)])))) (xu_in (xne _ rfl) (xu_uu _ _ _ _)) ?_
    refine xr_aload_n X 1 dX7_append_40 rfl rfl ?_
    refine xr_dup X dX7_append_41 rfl ?_
    refine xr_get X fF_X7_15_6 (xu_s _ _ _) rfl dX7_append_42 ?_
    refine xr_iconst (v := 1) X dX7_append_45 (by decide) ?_
    refine xr_iadd X dX7_append_46 ?_
    refine xr_top (y := (nI (tn + (k + 1)))) (nI_1 _) ?_
    refine xr_put (fs' := [.ref (e + 14), .int (nI (tn + (k + 1))), .ref (e + 15), .int (pr), .int (fa), .int (tk), .int (fi), .int (be)]) X (fW_X7_15_6 _) (xu_s _ _ _) rfl rfl rfl rfl dX7_append_47 ?_
    refine xr_heap (h' := (xu (xu h (e + 14) (.inl (.byte, 300, .inl (upd (va_cpy (fun q => sb (fb w (n.toNatClampNeg - 1 - q))) bt 0 tn k) (tn + k) (vp_nar .byte (sb (fb w (n.toNatClampNeg - 1 - k)))))))) (e + 13) (.inr (6, [.ref (e + 14), .int (nI (tn + (k + 1))), .ref (e + 15), .int (pr), .int (fa), .int (tk), .int (fi), .int (be)])))) (xu_uu _ _ _ _) ?_
    refine xr_iinc (v := x + (-1)) (lv' := [(4, .int (x + (-1))), (0, .ref (e + 13)), (1, .long w), (3, .int n)]) X 0 dX7_append_50 rfl rfl rfl rfl ?_
    refine xr_goto (tgt := 5) X dX7_append_53 (by decide) ?_
    refine xr_heap (h' := (xu (xu h (e + 14) (.inl (.byte, 300, .inl (va_cpy (fun q => sb (fb w (n.toNatClampNeg - 1 - q))) bt 0 tn (k + 1))))) (e + 13) (.inr (6, [.ref (e + 14), .int (nI (tn + (k + 1))), .ref (e + 15), .int (pr), .int (fa), .int (tk), .int (fi), .int (be)])))) (by rw [sb_n _ (fb_lt w _), ← cp_s, Nat.zero_add]) ?_
    exact ih (k + 1) (x + (-1)) (by omega) (by rw [i32_add (by rw [k32_m1]; omega) (by rw [k32_m1]; omega), k32_m1]; omega)
set_option maxRecDepth 100000 in
theorem c_X7_append {l : Launch} {Ω : xW} {h : xH} {sz : Nat} {e : Nat} {pr fa tk fi be : Int32} {bt : Nat → Int32} {tn : Nat} {w : Int64} {n : Int32} (hko : h (e + 13) = some (kO e (nI tn) pr fa tk fi be)) (hbt : h (e + 14) = some (.inl (.byte, 300, .inl bt))) (hn : 1 ≤ n.toInt ∧ n.toInt ≤ 8) (ht2 : tn + n.toNatClampNeg ≤ 300) : xC l Ω yX7_append cX7_append 5 (some .int) 0 0 0 [.ref (e + 13), .long w, .int n] h sz (some (.int (nI (tn + n.toNatClampNeg)))) (xu (xu h (e + 14) (.inl (.byte, 300, .inl (va_cpy (fun q => sb (fb w (n.toNatClampNeg - 1 - q))) bt 0 tn n.toNatClampNeg)))) (e + 13) (.inr (6, [.ref (e + 14), .int (nI (tn + n.toNatClampNeg)), .ref (e + 15), .int (pr), .int (fa), .int (tk), .int (fi), .int (be)]))) (sz) := by
  refine xC_of (lv := [(0, .ref (e + 13)), (1, .long w), (3, .int n)]) pn_X7 rfl rfl (fun Γ X hΓ hbs => ?_)
  have X : xX Γ Ω cX7_append 5 RX7 "append" (some .int) 0 0 0 0 := X
  subst hΓ
  have enn := (i32_tn (x := n) (by omega)).2
  refine xr_iload_n X 2 dX7_append_0 rfl rfl ?_
  refine xr_iconst (v := 1) X dX7_append_1 (by decide) ?_
  refine xr_isub X dX7_append_2 ?_
  refine xr_istore (lv' := [(4, .int (n - 1)), (0, .ref (e + 13)), (1, .long w), (3, .int n)]) X dX7_append_3 rfl rfl ?_
  refine xr_heap (h' := (xu (xu h (e + 14) (.inl (.byte, 300, .inl (va_cpy (fun q => sb (fb w (n.toNatClampNeg - 1 - q))) bt 0 tn 0)))) (e + 13) (.inr (6, [.ref (e + 14), .int (nI tn), .ref (e + 15), .int (pr), .int (fa), .int (tk), .int (fi), .int (be)])))) (by rw [cp_0, xu_id hbt]; exact (xu_id hko).symm) ?_
  exact l_X7_append X hko hbt hn ht2 n.toNatClampNeg 0 _ (by omega) (by rw [i32_sub (by rw [k32_1]; omega) (by rw [k32_1]; omega), k32_1]; omega)
set_option maxRecDepth 100000 in
theorem c_X7_size {l : Launch} {Ω : xW} {h : xH} {sz : Nat} {e : Nat} {le pr fa tk fi be : Int32} (hko : h (e + 13) = some (kO e le pr fa tk fi be)) : xC l Ω yX7_size cX7_size 1 (some .int) 0 0 0 [.ref (e + 13)] h sz (some (.int le)) h (sz) := by
  refine xC_of (lv := [(0, .ref (e + 13))]) pn_X7 rfl rfl (fun Γ X hΓ hbs => ?_)
  have X : xX Γ Ω cX7_size 1 RX7 "size" (some .int) 0 0 0 0 := X
  subst hΓ
  refine xr_aload_n X 0 dX7_size_0 rfl rfl ?_
  refine xr_get X fF_X7_15_6 hko rfl dX7_size_1 ?_
  exact xr_iret X rfl rfl rfl rfl rfl rfl dX7_size_4
set_option maxRecDepth 100000 in
theorem c_X7_latestFault {l : Launch} {Ω : xW} {h : xH} {sz : Nat} {e : Nat} {le pr fa tk fi be : Int32} (hko : h (e + 13) = some (kO e le pr fa tk fi be)) : xC l Ω yX7_latestFault cX7_latestFault 1 (some .int) 0 0 0 [.ref (e + 13)] h sz (some (.int fa)) h (sz) := by
  refine xC_of (lv := [(0, .ref (e + 13))]) pn_X7 rfl rfl (fun Γ X hΓ hbs => ?_)
  have X : xX Γ Ω cX7_latestFault 1 RX7 "latestFault" (some .int) 0 0 0 0 := X
  subst hΓ
  refine xr_aload_n X 0 dX7_latestFault_0 rfl rfl ?_
  refine xr_get X fF_X7_28_6 hko rfl dX7_latestFault_1 ?_
  exact xr_iret X rfl rfl rfl rfl rfl rfl dX7_latestFault_4
set_option maxRecDepth 100000 in
theorem c_X7_peopleRead {l : Launch} {Ω : xW} {h : xH} {sz : Nat} {e : Nat} {le pr fa tk fi be : Int32} (hko : h (e + 13) = some (kO e le pr fa tk fi be)) : xC l Ω yX7_peopleRead cX7_peopleRead 1 (some .int) 0 0 0 [.ref (e + 13)] h sz (some (.int pr)) h (sz) := by
  refine xC_of (lv := [(0, .ref (e + 13))]) pn_X7 rfl rfl (fun Γ X hΓ hbs => ?_)
  have X : xX Γ Ω cX7_peopleRead 1 RX7 "peopleRead" (some .int) 0 0 0 0 := X
  subst hΓ
  refine xr_aload_n X 0 dX7_peopleRead_0 rfl rfl ?_
  refine xr_get X fF_X7_25_6 hko rfl dX7_peopleRead_1 ?_
  exact xr_iret X rfl rfl rfl rfl rfl rfl dX7_peopleRead_4
set_option maxRecDepth 100000 in
theorem c_X7_reading {l : Launch} {Ω : xW} {h : xH} {sz : Nat} {e : Nat} {le fa tk fi be : Int32} {N k a : Nat} {pf : Nat → Option Nat} (hko : h (e + 13) = some (kO e le (nI N) fa tk fi be)) (hpf : h (e + 15) = some (.inl (.object "EvePost$Person", 6, .inr (.inr (.inr (.inr pf)))))) (hN : N ≤ 6) (hk : k < N) (ha : pf k = some a) : xC l Ω yX7_reading cX7_reading 2 (some (.object "EvePost$Person")) 0 0 0 [.ref (e + 13), .int (nI k)] h sz (some (.ref a)) h (sz) := by
  refine xC_of (lv := [(0, .ref (e + 13)), (1, .int (nI k))]) pn_X7 rfl rfl (fun Γ X hΓ hbs => ?_)
  have X : xX Γ Ω cX7_reading 2 RX7 "reading" (some (.object "EvePost$Person")) 0 0 0 0 := X
  subst hΓ
  refine xr_iload_n X 1 dX7_reading_0 rfl rfl ?_
  refine xr_if_lt (tgt := 21) X dX7_reading_1 (by decide) (fun c_1 => absurd c_1 (nI_pos (by omega))) (fun _ => ?_)
  refine xr_iload_n X 1 dX7_reading_4 rfl rfl ?_
  refine xr_aload_n X 0 dX7_reading_5 rfl rfl ?_
  refine xr_get X fF_X7_25_6 hko rfl dX7_reading_6 ?_
  refine xr_icmp_ge (tgt := 21) X dX7_reading_9 (by decide) (fun c_9 => absurd c_9 (by rw [i32_le, nI_toInt (by omega), nI_toInt (by omega)]; omega)) (fun _ => ?_)
  refine xr_iload_n X 1 dX7_reading_12 rfl rfl ?_
  refine xr_aload_n X 0 dX7_reading_13 rfl rfl ?_
  refine xr_get X fF_X7_21_6 hko rfl dX7_reading_14 ?_
  refine xr_alen (v := 6) X hpf (show nI 6 = 6 by decide) dX7_reading_17 ?_
  refine xr_icmp_lt (tgt := 25) X dX7_reading_18 (by decide) (fun _ => ?_) (fun c_18 => absurd (by rw [i32_lt, nI_toInt (by omega), k32_6]; omega) c_18)
  refine xr_aload_n X 0 dX7_reading_25 rfl rfl ?_
  refine xr_get X fF_X7_21_6 hko rfl dX7_reading_26 ?_
  refine xr_iload_n X 1 dX7_reading_29 rfl rfl ?_
  refine xr_aald (j := k) (v := .ref a) X hpf rfl (xI_n (by omega) (by omega)) (by rw [ha]; rfl) dX7_reading_30 ?_
  exact xr_aret X rfl (Or.inr ⟨_, rfl⟩) rfl rfl rfl rfl rfl dX7_reading_31
