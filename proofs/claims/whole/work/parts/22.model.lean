set_option maxRecDepth 100000 in
theorem l_X12_feed {Γ : xΓ} {Ω : xW} {h : xH} {sz : Nat} (X : xX Γ Ω cX12_feed 5 RX12 "feed" (some .int) 1 35 0 0) {m : Nat} {st ac la le cu tk sa ti fa fl tr : Int32} {tn : Nat} {tape : Nat → Int32} {w : Int64} {n : Int32} (hm : h m = some (mO m st ac (nI tn) la le cu tk sa ti fa fl tr)) (htape : h (m + 7) = some (.inl (.int, 300, .inl tape))) (hn : 1 ≤ n.toInt ∧ n.toInt ≤ 8) (ht2 : tn + n.toNatClampNeg ≤ 300) : ∀ (j k : Nat) (x : Int32), k + j = n.toNatClampNeg → x.toInt = (n.toNatClampNeg : Int) - 1 - k → xG Γ Ω 5 (xQ Γ Ω (some (.int (nI (tn + n.toNatClampNeg)))) (xu (xu h (m + 7) (.inl (.int, 300, .inl (va_cpy (fun q => nI (fb w (n.toNatClampNeg - 1 - q))) tape 0 tn n.toNatClampNeg)))) m (.inr (11, [.int 0, .int st, .ref (m + 1), .ref (m + 2), .ref (m + 3), .ref (m + 4), .ref (m + 5), .ref (m + 6), .int ac, .ref (m + 7), .int (nI (tn + n.toNatClampNeg)), .int la, .int le, .int cu, .int tk, .int sa, .int ti, .int fa, .int fl, .ref (m + 8), .ref (m + 9), .ref (m + 10), .ref (m + 11), .int tr]))) (sz) 0 0) 40 [(4, .int x), (0, .ref m), (1, .long w), (3, .int n)] ([]) (xu (xu h (m + 7) (.inl (.int, 300, .inl (va_cpy (fun q => nI (fb w (n.toNatClampNeg - 1 - q))) tape 0 tn k)))) m (.inr (11, [.int 0, .int st, .ref (m + 1), .ref (m + 2), .ref (m + 3), .ref (m + 4), .ref (m + 5), .ref (m + 6), .int ac, .ref (m + 7), .int (nI (tn + k)), .int la, .int le, .int cu, .int tk, .int sa, .int ti, .int fa, .int fl, .ref (m + 8), .ref (m + 9), .ref (m + 10), .ref (m + 11), .int tr]))) sz 0 0 := by
  intro j0
  induction j0 with
  | zero =>
    intro k x hk hx
    have ek : k = n.toNatClampNeg := by omega
    refine xr_iload X 0 dX12_feed_40 rfl ?_
    refine xr_if_lt (tgt := 82) X dX12_feed_42 (by decide) (fun _ => ?_) (fun c_42 => absurd (by rw [i32_lt, k32_0]; omega) c_42)
    refine xr_aload_n X 1 dX12_feed_82 rfl rfl ?_
    refine xr_get X fF_X12_71_11 (xu_s _ _ _) rfl dX12_feed_83 ?_
    exact xr_iret X rfl (by rw [ek]) (by rw [ek]) rfl rfl rfl dX12_feed_86
  | succ j0 ih =>
    intro k x hk hx
    have lk : k < n.toNatClampNeg := by omega
    have enn := (i32_tn (x := n) (by omega)).2
    refine xr_iload X 0 dX12_feed_40 rfl ?_
    refine xr_if_lt (tgt := 82) X dX12_feed_42 (by decide) (fun c_42 => absurd c_42 (by rw [i32_lt, k32_0]; omega)) (fun _ => ?_)
    refine xr_aload_n X 1 dX12_feed_45 rfl rfl ?_
    refine xr_get X fF_X12_28_11 (xu_s _ _ _) rfl dX12_feed_46 ?_
    refine xr_aload_n X 1 dX12_feed_49 rfl rfl ?_
    refine xr_get X fF_X12_71_11 (xu_s _ _ _) rfl dX12_feed_50 ?_
    refine xr_lload_n X 2 dX12_feed_53 rfl rfl ?_
    refine xr_bipush (v := 8) X dX12_feed_54 (by decide) ?_
    refine xr_iload X 0 dX12_feed_56 rfl ?_
    refine xr_top (y := (nI (n.toNatClampNeg - 1 - k))) (by rw [i32_eq, nI_toInt (by omega)]; omega) ?_
    refine xr_imul X dX12_feed_58 ?_
    refine xr_lshr X dX12_feed_59 ?_
    refine xr_ldc2 (v := 255) X kw_1055 dX12_feed_60 ?_
    refine xr_land X dX12_feed_63 ?_
    refine xr_l2i X dX12_feed_64 ?_
    refine xr_top (y := (nI (fb w (n.toNatClampNeg - 1 - k)))) (fbv w _ (by omega)) ?_
    refine xr_iast (j := (tn + k)) X (xu_at (xn1 _ rfl) (xu_s _ _ _)) (xI_n (by omega) (by omega)) dX12_feed_65 ?_
    refine xr_heap (h' := (xu (xu h (m + 7) (.inl (.int, 300, .inl (upd (va_cpy (fun q => nI (fb w (n.toNatClampNeg - 1 - q))) tape 0 tn k) (tn + k) (nI (fb w (n.toNatClampNeg - 1 - k))))))) m (.inr (11, [.int 0, .int st, .ref (m + 1), .ref (m + 2), .ref (m + 3), .ref (m + 4), .ref (m + 5), .ref (m + 6), .int ac, .ref (m + 7), .int (nI (tn + k)), .int la, .int le, .int cu, .int tk, .int sa, .int ti, .int fa, .int fl, .ref (m + 8), .ref (m + 9), .ref (m + 10), .ref (m + 11), .int tr])))) (xu_in (xn0 _ rfl) (xu_uu _ _ _ _)) ?_
    refine xr_aload_n X 1 dX12_feed_66 rfl rfl ?_
    refine xr_dup X dX12_feed_67 rfl ?_
    refine xr_get X fF_X12_71_11 (xu_s _ _ _) rfl dX12_feed_68 ?_
    refine xr_iconst (v := 1) X dX12_feed_71 (by decide) ?_
    refine xr_iadd X dX12_feed_72 ?_
    refine xr_top (y := (nI (tn + (k + 1)))) (nI_1 _) ?_
    refine xr_put (fs' := [.int 0, .int st, .ref (m + 1), .ref (m + 2), .ref (m + 3), .ref (m + 4), .ref (m + 5), .ref (m + 6), .int ac, .ref (m + 7), .int (nI (tn + (k + 1))), .int la, .int le, .int cu, .int tk, .int sa, .int ti, .int fa, .int fl, .ref (m + 8), .ref (m + 9), .ref (m + 10), .ref (m + 11), .int tr]) X (fW_X12_71_11 _) (xu_s _ _ _) rfl rfl rfl rfl dX12_feed_73 ?_
    refine xr_heap (h' := (xu (xu h (m + 7) (.inl (.int, 300, .inl (upd (va_cpy (fun q => nI (fb w (n.toNatClampNeg - 1 - q))) tape 0 tn k) (tn + k) (nI (fb w (n.toNatClampNeg - 1 - k))))))) m (.inr (11, [.int 0, .int st, .ref (m + 1), .ref (m + 2), .ref (m + 3), .ref (m + 4), .ref (m + 5), .ref (m + 6), .int ac, .ref (m + 7), .int (nI (tn + (k + 1))), .int la, .int le, .int cu, .int tk, .int sa, .int ti, .int fa, .int fl, .ref (m + 8), .ref (m + 9), .ref (m + 10), .ref (m + 11), .int tr])))) (xu_uu _ _ _ _) ?_
    refine xr_iinc (v := x + (-1)) (lv' := [(4, .int (x + (-1))), (0, .ref m), (1, .long w), (3, .int n)]) X 0 dX12_feed_76 rfl rfl rfl rfl ?_
    refine xr_goto (tgt := 40) X dX12_feed_79 (by decide) ?_
    refine xr_heap (h' := (xu (xu h (m + 7) (.inl (.int, 300, .inl (va_cpy (fun q => nI (fb w (n.toNatClampNeg - 1 - q))) tape 0 tn (k + 1))))) m (.inr (11, [.int 0, .int st, .ref (m + 1), .ref (m + 2), .ref (m + 3), .ref (m + 4), .ref (m + 5), .ref (m + 6), .int ac, .ref (m + 7), .int (nI (tn + (k + 1))), .int la, .int le, .int cu, .int tk, .int sa, .int ti, .int fa, .int fl, .ref (m + 8), .ref (m + 9), .ref (m + 10), .ref (m + 11), .int tr])))) (by rw [← cp_s, Nat.zero_add]) ?_
    exact ih (k + 1) (x + (-1)) (by omega) (by rw [i32_add (by rw [k32_m1]; omega) (by rw [k32_m1]; omega), k32_m1]; omega)
def a_feed (tn : Nat) (n : Int32) : Int32 := if 1 ≤ n.toInt ∧ n.toInt ≤ 8 then (if 300 < tn + n.toNatClampNeg then -1000003 else nI (tn + n.toNatClampNeg)) else -1000001
set_option maxRecDepth 100000 in
theorem c_X12_feed {l : Launch} {Ω : xW} {h : xH} {sz : Nat} {m : Nat} {st ac la le cu tk sa ti fa fl tr : Int32} {tn : Nat} {tape : Nat → Int32} {w : Int64} {n : Int32} (hm : h m = some (mO m st ac (nI tn) la le cu tk sa ti fa fl tr)) (htape : h (m + 7) = some (.inl (.int, 300, .inl tape))) (htn : tn ≤ 300) : xC l Ω yX12_feed cX12_feed 5 (some .int) 1 0 0 [.ref m, .long w, .int n] h sz (some (.int (a_feed tn n))) (if 1 ≤ n.toInt ∧ n.toInt ≤ 8 then (if 300 < tn + n.toNatClampNeg then h else (xu (xu h (m + 7) (.inl (.int, 300, .inl (va_cpy (fun q => nI (fb w (n.toNatClampNeg - 1 - q))) tape 0 tn n.toNatClampNeg)))) m (.inr (11, [.int 0, .int st, .ref (m + 1), .ref (m + 2), .ref (m + 3), .ref (m + 4), .ref (m + 5), .ref (m + 6), .int ac, .ref (m + 7), .int (nI (tn + n.toNatClampNeg)), .int la, .int le, .int cu, .int tk, .int sa, .int ti, .int fa, .int fl, .ref (m + 8), .ref (m + 9), .ref (m + 10), .ref (m + 11), .int tr])))) else h) (sz) := by
  refine xC_of (lv := [(0, .ref m), (1, .long w), (3, .int n)]) pn_X12 rfl rfl (fun Γ X hΓ hbs => ?_)
  have X : xX Γ Ω cX12_feed 5 RX12 "feed" (some .int) 1 35 0 0 := X
  subst hΓ
  refine xr_aload_n X 0 dX12_feed_0 rfl rfl ?_
  refine xr_iconst (v := 0) X dX12_feed_1 (by decide) ?_
  refine xr_put (fs' := [.int 0, .int st, .ref (m + 1), .ref (m + 2), .ref (m + 3), .ref (m + 4), .ref (m + 5), .ref (m + 6), .int ac, .ref (m + 7), .int (nI tn), .int la, .int le, .int cu, .int tk, .int sa, .int ti, .int fa, .int fl, .ref (m + 8), .ref (m + 9), .ref (m + 10), .ref (m + 11), .int tr]) X (fW_X12_44_11 _) hm rfl rfl rfl rfl dX12_feed_2 ?_
  refine xr_heap (h' := h) (xu_id hm) ?_
  refine xr_iload_n X 2 dX12_feed_5 rfl rfl ?_
  refine xr_i2l X dX12_feed_6 ?_
  refine xr_lconst (v := 1) X dX12_feed_7 (by decide) ?_
  refine xr_ldc2 (v := 8) X kw_1053 dX12_feed_8 ?_
  refine xr_callS X kw_1027 kw_1028 cw_X12_in [.long n.toInt64, .long 1, .long 8] c_X12_in rfl rfl rfl rfl rfl rfl rfl dX12_feed_11 ?_
  refine xr_if_ne (tgt := 20) X dX12_feed_14 (by decide) (fun c_14 => ?_) (fun c_14 => ?_)
  · have c_14 := of_decide_eq_true (xb_1.mp c_14)
    (try simp (disch := omega) only [nI_toInt, i32_add, i32_sub, i32_mul, i64_addl, i32_l, k32_1, k32_8, k64_1, k64_8] at c_14)
    have enn := (i32_tn (x := n) (by omega)).2
    have eadd : (nI tn + n).toInt = (tn : Int) + n.toInt := by rw [i32_add (by rw [nI_toInt (by omega)]; omega) (by rw [nI_toInt (by omega)]; omega), nI_toInt (by omega)]
    refine xr_aload_n X 0 dX12_feed_20 rfl rfl ?_
    refine xr_get X fF_X12_71_11 hm rfl dX12_feed_21 ?_
    refine xr_iload_n X 2 dX12_feed_24 rfl rfl ?_
    refine xr_iadd X dX12_feed_25 ?_
    refine xr_sipush (v := 300) X dX12_feed_26 (by decide) ?_
    refine xr_icmp_le (tgt := 35) X dX12_feed_29 (by decide) (fun c_29 => ?_) (fun c_29 => ?_)
    · have c_29 := i32_le.mp c_29
      (try simp (disch := omega) only [nI_toInt, i32_add, i32_sub, i32_mul, i64_addl, i32_l, k32_300] at c_29)
      refine xr_iload_n X 2 dX12_feed_35 rfl rfl ?_
      refine xr_iconst (v := 1) X dX12_feed_36 (by decide) ?_
      refine xr_isub X dX12_feed_37 ?_
      refine xr_istore (lv' := [(4, .int (n - 1)), (0, .ref m), (1, .long w), (3, .int n)]) X dX12_feed_38 rfl rfl ?_
      rw [show a_feed tn n = nI (tn + n.toNatClampNeg) from ((if_pos (by omega)).trans (if_neg (by omega))), if_pos (show 1 ≤ n.toInt ∧ n.toInt ≤ 8 by omega), if_neg (show ¬ 300 < tn + n.toNatClampNeg by omega)]
      refine xr_heap (h' := (xu (xu h (m + 7) (.inl (.int, 300, .inl (va_cpy (fun q => nI (fb w (n.toNatClampNeg - 1 - q))) tape 0 tn 0)))) m (.inr (11, [.int 0, .int st, .ref (m + 1), .ref (m + 2), .ref (m + 3), .ref (m + 4), .ref (m + 5), .ref (m + 6), .int ac, .ref (m + 7), .int (nI (tn + 0)), .int la, .int le, .int cu, .int tk, .int sa, .int ti, .int fa, .int fl, .ref (m + 8), .ref (m + 9), .ref (m + 10), .ref (m + 11), .int tr])))) (by rw [cp_0]; exact (xu_id hm).symm.trans (congrArg (fun z => xu z m _) (xu_id htape).symm)) ?_
      exact l_X12_feed X hm htape (by omega) (by omega) n.toNatClampNeg 0 _ (by omega) (by rw [i32_sub (by rw [k32_1]; omega) (by rw [k32_1]; omega), k32_1]; omega)
    · have c_29 := mt i32_le.mpr c_29
      (try simp (disch := omega) only [nI_toInt, i32_add, i32_sub, i32_mul, i64_addl, i32_l, k32_300] at c_29)
      refine xr_ldc (v := (-1000003)) X kw_1054 dX12_feed_32 ?_
      exact xr_iret X rfl (xv ((if_pos (by omega)).trans (if_pos (by omega)))) (((if_pos (by omega)).trans (if_pos (by omega))).symm) rfl rfl rfl dX12_feed_34
  · have c_14 := of_decide_eq_false (xb_0.mp c_14)
    (try simp (disch := omega) only [nI_toInt, i32_add, i32_sub, i32_mul, i64_addl, i32_l, k32_1, k32_8, k64_1, k64_8] at c_14)
    refine xr_ldc (v := (-1000001)) X kw_1031 dX12_feed_17 ?_
    exact xr_iret X rfl (xv (if_neg (by omega))) ((if_neg (by omega)).symm) rfl rfl rfl dX12_feed_19
set_option maxRecDepth 100000 in
theorem l_X12_copy_u {Γ : xΓ} {Ω : xW} {h : xH} {sz : Nat} (X : xX Γ Ω cX12_copy 9 RX12 "copy" (some .int) 2 70 0 0) {m : Nat} {st ac tp la le cu tk sa ti fa fl tr : Int32} {lane many item : Nat → Int32} {a i b j n : Int32} (hm : h m = some (mO m st ac tp la le cu tk sa ti fa fl tr)) (hlane : h (m + 1) = some (.inl (.int, 8, .inl lane))) (hmany : h (m + 2) = some (.inl (.int, 8, .inl many))) (hitem : h (m + 3) = some (.inl (.int, 320, .inl item))) (hM : ∀ q, q < 8 → (many q).toInt ≤ 40) (ta : (a.toNatClampNeg : Int) = a.toInt) (tb : (b.toNatClampNeg : Int) = b.toInt) (tI : (i.toNatClampNeg : Int) = i.toInt) (tJ : (j.toNatClampNeg : Int) = j.toInt) (tN : (n.toNatClampNeg : Int) = n.toInt) (ha8 : a.toNatClampNeg < 8) (hb8 : b.toNatClampNeg < 8) (hi4 : i.toNatClampNeg + n.toNatClampNeg ≤ 40) (hj4 : j.toNatClampNeg + n.toNatClampNeg ≤ 40) (hij : j.toNatClampNeg ≤ i.toNatClampNeg) : ∀ (j0 k : Nat), k + j0 = n.toNatClampNeg → xG Γ Ω 9 (xQ Γ Ω (some (.int n)) (xu (xu h m (.inr (11, [.int 0, .int 0, .ref (m + 1), .ref (m + 2), .ref (m + 3), .ref (m + 4), .ref (m + 5), .ref (m + 6), .int ac, .ref (m + 7), .int tp, .int la, .int le, .int cu, .int tk, .int sa, .int ti, .int fa, .int fl, .ref (m + 8), .ref (m + 9), .ref (m + 10), .ref (m + 11), .int tr]))) (m + 3) (.inl (.int, 320, .inl (va_cpy item item (40 * a.toNatClampNeg + i.toNatClampNeg) (40 * b.toNatClampNeg + j.toNatClampNeg) n.toNatClampNeg)))) (sz) 0 0) 143 [(7, .int (nI k)), (6, .int 1), (0, .ref m), (1, .int a), (2, .int i), (3, .int b), (4, .int j), (5, .int n)] ([]) (xu (xu h m (.inr (11, [.int 0, .int 0, .ref (m + 1), .ref (m + 2), .ref (m + 3), .ref (m + 4), .ref (m + 5), .ref (m + 6), .int ac, .ref (m + 7), .int tp, .int la, .int le, .int cu, .int tk, .int sa, .int ti, .int fa, .int fl, .ref (m + 8), .ref (m + 9), .ref (m + 10), .ref (m + 11), .int tr]))) (m + 3) (.inl (.int, 320, .inl (va_cpy item item (40 * a.toNatClampNeg + i.toNatClampNeg) (40 * b.toNatClampNeg + j.toNatClampNeg) k)))) sz 0 0 := by
  intro j0
  induction j0 with
  | zero =>
    intro k hk
    have ek : k = n.toNatClampNeg := by omega
    refine xr_iload X 0 dX12_copy_143 rfl ?_
    refine xr_iload X 7 dX12_copy_145 rfl ?_
    refine xr_icmp_ge (tgt := 204) X dX12_copy_147 (by decide) (fun _ => ?_) (fun c_147 => absurd (by rw [i32_le, nI_toInt (by omega)]; omega) c_147)
    refine xr_iload X 7 dX12_copy_204 rfl ?_
    exact xr_iret X rfl rfl (by rw [ek]) rfl rfl rfl dX12_copy_206
  | succ j0 ih =>
    intro k hk
    have lk : k < n.toNatClampNeg := by omega
    refine xr_iload X 0 dX12_copy_143 rfl ?_
    refine xr_iload X 7 dX12_copy_145 rfl ?_
    refine xr_icmp_ge (tgt := 204) X dX12_copy_147 (by decide) (fun c_147 => absurd c_147 (by rw [i32_le, nI_toInt (by omega)]; omega)) (fun _ => ?_)
    refine xr_iload X 1 dX12_copy_150 rfl ?_
    refine xr_if_eq (tgt := 160) X dX12_copy_152 (by decide) (fun c_152 => absurd c_152 (by decide)) (fun _ => ?_)
    refine xr_iload X 0 dX12_copy_155 rfl ?_
    refine xr_goto (tgt := 167) X dX12_copy_157 (by decide) ?_
    refine xr_istore (lv' := [(8, .int (nI k)), (7, .int (nI k)), (6, .int 1), (0, .ref m), (1, .int a), (2, .int i), (3, .int b), (4, .int j), (5, .int n)]) X dX12_copy_167 rfl rfl ?_
    refine xr_aload_n X 3 dX12_copy_169 rfl rfl ?_
    refine xr_get X fF_X12_16_11 (xu_at (xn0 _ rfl) (xu_s _ _ _)) rfl dX12_copy_170 ?_
    refine xr_bipush (v := 40) X dX12_copy_173 (by decide) ?_
    refine xr_iload_n X 6 dX12_copy_175 rfl rfl ?_
    refine xr_imul X dX12_copy_176 ?_
    refine xr_iload X 7 dX12_copy_177 rfl ?_
    refine xr_iadd X dX12_copy_179 ?_
    refine xr_iload X 0 dX12_copy_180 rfl ?_
    refine xr_iadd X dX12_copy_182 ?_
    refine xr_aload_n X 3 dX12_copy_183 rfl rfl ?_
    refine xr_get X fF_X12_16_11 (xu_at (xn0 _ rfl) (xu_s _ _ _)) rfl dX12_copy_184 ?_
    refine xr_bipush (v := 40) X dX12_copy_187 (by decide) ?_
    refine xr_iload_n X 4 dX12_copy_189 rfl rfl ?_
    refine xr_imul X dX12_copy_190 ?_
    refine xr_iload_n X 5 dX12_copy_191 rfl rfl ?_
    refine xr_iadd X dX12_copy_192 ?_
    refine xr_iload X 0 dX12_copy_193 rfl ?_
    refine xr_iadd X dX12_copy_195 ?_
    refine xr_iald (j := ((40 * a.toNatClampNeg + i.toNatClampNeg) + k)) X (xu_s _ _ _) (xI_i (by have e4 := i32_m40 (x := a) (by omega) (by omega); have e5 : (40 * a + i).toInt = 40 * a.toInt + i.toInt := (by rw [i32_add (by omega) (by omega), e4]); rw [i32_add (by rw [nI_toInt (by omega)]; omega) (by rw [nI_toInt (by omega)]; omega), e5, nI_toInt (by omega)]; omega) (by omega)) dX12_copy_196 ?_
    refine xr_top (y := (item ((40 * a.toNatClampNeg + i.toNatClampNeg) + k))) (pk_cpy_out (by omega)) ?_
    refine xr_iast (j := ((40 * b.toNatClampNeg + j.toNatClampNeg) + k)) X (xu_s _ _ _) (xI_i (by have e4 := i32_m40 (x := b) (by omega) (by omega); have e5 : (40 * b + j).toInt = 40 * b.toInt + j.toInt := (by rw [i32_add (by omega) (by omega), e4]); rw [i32_add (by rw [nI_toInt (by omega)]; omega) (by rw [nI_toInt (by omega)]; omega), e5, nI_toInt (by omega)]; omega) (by omega)) dX12_copy_197 ?_
    refine xr_heap (h' := (xu (xu h m (.inr (11, [.int 0, .int 0, .ref (m + 1), .ref (m + 2), .ref (m + 3), .ref (m + 4), .ref (m + 5), .ref (m + 6), .int ac, .ref (m + 7), .int tp, .int la, .int le, .int cu, .int tk, .int sa, .int ti, .int fa, .int fl, .ref (m + 8), .ref (m + 9), .ref (m + 10), .ref (m + 11), .int tr]))) (m + 3) (.inl (.int, 320, .inl (upd (va_cpy item item (40 * a.toNatClampNeg + i.toNatClampNeg) (40 * b.toNatClampNeg + j.toNatClampNeg) k) ((40 * b.toNatClampNeg + j.toNatClampNeg) + k) (item ((40 * a.toNatClampNeg + i.toNatClampNeg) + k))))))) (xu_uu _ _ _ _) ?_
    refine xr_iinc (v := nI (k + 1)) (lv' := [(7, .int (nI (k + 1))), (8, .int (nI k)), (6, .int 1), (0, .ref m), (1, .int a), (2, .int i), (3, .int b), (4, .int j), (5, .int n)]) X 1 dX12_copy_198 rfl (nI_1 _) rfl rfl ?_
    refine xr_goto (tgt := 143) X dX12_copy_201 (by decide) ?_
    refine xr_locs (lv' := [(7, .int (nI (k + 1))), (6, .int 1), (0, .ref m), (1, .int a), (2, .int i), (3, .int b), (4, .int j), (5, .int n)]) [0, 2, 3, 4, 5, 6, 7, 8] rfl ?_
    refine xr_heap (h' := (xu (xu h m (.inr (11, [.int 0, .int 0, .ref (m + 1), .ref (m + 2), .ref (m + 3), .ref (m + 4), .ref (m + 5), .ref (m + 6), .int ac, .ref (m + 7), .int tp, .int la, .int le, .int cu, .int tk, .int sa, .int ti, .int fa, .int fl, .ref (m + 8), .ref (m + 9), .ref (m + 10), .ref (m + 11), .int tr]))) (m + 3) (.inl (.int, 320, .inl (va_cpy item item (40 * a.toNatClampNeg + i.toNatClampNeg) (40 * b.toNatClampNeg + j.toNatClampNeg) (k + 1)))))) (by rw [cp_s]) ?_
    exact ih (k + 1) (by omega)
set_option maxRecDepth 100000 in
theorem l_X12_copy_d {Γ : xΓ} {Ω : xW} {h : xH} {sz : Nat} (X : xX Γ Ω cX12_copy 9 RX12 "copy" (some .int) 2 70 0 0) {m : Nat} {st ac tp la le cu tk sa ti fa fl tr : Int32} {lane many item : Nat → Int32} {a i b j n : Int32} (hm : h m = some (mO m st ac tp la le cu tk sa ti fa fl tr)) (hlane : h (m + 1) = some (.inl (.int, 8, .inl lane))) (hmany : h (m + 2) = some (.inl (.int, 8, .inl many))) (hitem : h (m + 3) = some (.inl (.int, 320, .inl item))) (hM : ∀ q, q < 8 → (many q).toInt ≤ 40) (ta : (a.toNatClampNeg : Int) = a.toInt) (tb : (b.toNatClampNeg : Int) = b.toInt) (tI : (i.toNatClampNeg : Int) = i.toInt) (tJ : (j.toNatClampNeg : Int) = j.toInt) (tN : (n.toNatClampNeg : Int) = n.toInt) (ha8 : a.toNatClampNeg < 8) (hb8 : b.toNatClampNeg < 8) (hi4 : i.toNatClampNeg + n.toNatClampNeg ≤ 40) (hj4 : j.toNatClampNeg + n.toNatClampNeg ≤ 40) (hij : i.toNatClampNeg < j.toNatClampNeg) : ∀ (j0 k : Nat), k + j0 = n.toNatClampNeg → xG Γ Ω 9 (xQ Γ Ω (some (.int n)) (xu (xu h m (.inr (11, [.int 0, .int 0, .ref (m + 1), .ref (m + 2), .ref (m + 3), .ref (m + 4), .ref (m + 5), .ref (m + 6), .int ac, .ref (m + 7), .int tp, .int la, .int le, .int cu, .int tk, .int sa, .int ti, .int fa, .int fl, .ref (m + 8), .ref (m + 9), .ref (m + 10), .ref (m + 11), .int tr]))) (m + 3) (.inl (.int, 320, .inl (va_cpy item item (40 * a.toNatClampNeg + i.toNatClampNeg) (40 * b.toNatClampNeg + j.toNatClampNeg) n.toNatClampNeg)))) (sz) 0 0) 143 [(7, .int (nI k)), (6, .int 0), (0, .ref m), (1, .int a), (2, .int i), (3, .int b), (4, .int j), (5, .int n)] ([]) (xu (xu h m (.inr (11, [.int 0, .int 0, .ref (m + 1), .ref (m + 2), .ref (m + 3), .ref (m + 4), .ref (m + 5), .ref (m + 6), .int ac, .ref (m + 7), .int tp, .int la, .int le, .int cu, .int tk, .int sa, .int ti, .int fa, .int fl, .ref (m + 8), .ref (m + 9), .ref (m + 10), .ref (m + 11), .int tr]))) (m + 3) (.inl (.int, 320, .inl (va_cpy item item ((40 * a.toNatClampNeg + i.toNatClampNeg) + (n.toNatClampNeg - k)) ((40 * b.toNatClampNeg + j.toNatClampNeg) + (n.toNatClampNeg - k)) k)))) sz 0 0 := by
  intro j0
  induction j0 with
  | zero =>
    intro k hk
    have ek : k = n.toNatClampNeg := by omega
    refine xr_iload X 0 dX12_copy_143 rfl ?_
    refine xr_iload X 7 dX12_copy_145 rfl ?_
    refine xr_icmp_ge (tgt := 204) X dX12_copy_147 (by decide) (fun _ => ?_) (fun c_147 => absurd (by rw [i32_le, nI_toInt (by omega)]; omega) c_147)
    refine xr_iload X 7 dX12_copy_204 rfl ?_
    exact xr_iret X rfl rfl (by rw [ek, Nat.sub_self]; rfl) rfl rfl rfl dX12_copy_206
  | succ j0 ih =>
    intro k hk
    have lk : k < n.toNatClampNeg := by omega
    refine xr_iload X 0 dX12_copy_143 rfl ?_
    refine xr_iload X 7 dX12_copy_145 rfl ?_
    refine xr_icmp_ge (tgt := 204) X dX12_copy_147 (by decide) (fun c_147 => absurd c_147 (by rw [i32_le, nI_toInt (by omega)]; omega)) (fun _ => ?_)
    refine xr_iload X 1 dX12_copy_150 rfl ?_
    refine xr_if_eq (tgt := 160) X dX12_copy_152 (by decide) (fun _ => ?_) (fun c_152 => absurd (by decide) c_152)
    refine xr_iload X 7 dX12_copy_160 rfl ?_
    refine xr_iconst (v := 1) X dX12_copy_162 (by decide) ?_
    refine xr_isub X dX12_copy_163 ?_
    refine xr_iload X 0 dX12_copy_164 rfl ?_
    refine xr_isub X dX12_copy_166 ?_
    refine xr_top (y := (nI (n.toNatClampNeg - 1 - k))) (by have e1 : (n - 1).toInt = n.toInt - 1 := (by rw [i32_sub (by rw [k32_1]; omega) (by rw [k32_1]; omega), k32_1]); rw [i32_eq, i32_sub (by rw [nI_toInt (by omega)]; omega) (by rw [nI_toInt (by omega)]; omega), e1, nI_toInt (by omega), nI_toInt (by omega)]; omega) ?_
    refine xr_istore (lv' := [(8, .int (nI (n.toNatClampNeg - 1 - k))), (7, .int (nI k)), (6, .int 0), (0, .ref m), (1, .int a), (2, .int i), (3, .int b), (4, .int j), (5, .int n)]) X dX12_copy_167 rfl rfl ?_
    refine xr_aload_n X 3 dX12_copy_169 rfl rfl ?_
    refine xr_get X fF_X12_16_11 (xu_at (xn0 _ rfl) (xu_s _ _ _)) rfl dX12_copy_170 ?_
    refine xr_bipush (v := 40) X dX12_copy_173 (by decide) ?_
    refine xr_iload_n X 6 dX12_copy_175 rfl rfl ?_
    refine xr_imul X dX12_copy_176 ?_
    refine xr_iload X 7 dX12_copy_177 rfl ?_
    refine xr_iadd X dX12_copy_179 ?_
    refine xr_iload X 0 dX12_copy_180 rfl ?_
    refine xr_iadd X dX12_copy_182 ?_
    refine xr_aload_n X 3 dX12_copy_183 rfl rfl ?_
    refine xr_get X fF_X12_16_11 (xu_at (xn0 _ rfl) (xu_s _ _ _)) rfl dX12_copy_184 ?_
    refine xr_bipush (v := 40) X dX12_copy_187 (by decide) ?_
    refine xr_iload_n X 4 dX12_copy_189 rfl rfl ?_
    refine xr_imul X dX12_copy_190 ?_
    refine xr_iload_n X 5 dX12_copy_191 rfl rfl ?_
    refine xr_iadd X dX12_copy_192 ?_
    refine xr_iload X 0 dX12_copy_193 rfl ?_
    refine xr_iadd X dX12_copy_195 ?_
    refine xr_iald (j := ((40 * a.toNatClampNeg + i.toNatClampNeg) + (n.toNatClampNeg - 1 - k))) X (xu_s _ _ _) (xI_i (by have e4 := i32_m40 (x := a) (by omega) (by omega); have e5 : (40 * a + i).toInt = 40 * a.toInt + i.toInt := (by rw [i32_add (by omega) (by omega), e4]); rw [i32_add (by rw [nI_toInt (by omega)]; omega) (by rw [nI_toInt (by omega)]; omega), e5, nI_toInt (by omega)]; omega) (by omega)) dX12_copy_196 ?_
    refine xr_top (y := (item ((40 * a.toNatClampNeg + i.toNatClampNeg) + (n.toNatClampNeg - 1 - k)))) (pk_cpy_out (by omega)) ?_
    refine xr_iast (j := ((40 * b.toNatClampNeg + j.toNatClampNeg) + (n.toNatClampNeg - 1 - k))) X (xu_s _ _ _) (xI_i (by have e4 := i32_m40 (x := b) (by omega) (by omega); have e5 : (40 * b + j).toInt = 40 * b.toInt + j.toInt := (by rw [i32_add (by omega) (by omega), e4]); rw [i32_add (by rw [nI_toInt (by omega)]; omega) (by rw [nI_toInt (by omega)]; omega), e5, nI_toInt (by omega)]; omega) (by omega)) dX12_copy_197 ?_
    refine xr_heap (h' := (xu (xu h m (.inr (11, [.int 0, .int 0, .ref (m + 1), .ref (m + 2), .ref (m + 3), .ref (m + 4), .ref (m + 5), .ref (m + 6), .int ac, .ref (m + 7), .int tp, .int la, .int le, .int cu, .int tk, .int sa, .int ti, .int fa, .int fl, .ref (m + 8), .ref (m + 9), .ref (m + 10), .ref (m + 11), .int tr]))) (m + 3) (.inl (.int, 320, .inl (upd (va_cpy item item ((40 * a.toNatClampNeg + i.toNatClampNeg) + (n.toNatClampNeg - k)) ((40 * b.toNatClampNeg + j.toNatClampNeg) + (n.toNatClampNeg - k)) k) ((40 * b.toNatClampNeg + j.toNatClampNeg) + (n.toNatClampNeg - 1 - k)) (item ((40 * a.toNatClampNeg + i.toNatClampNeg) + (n.toNatClampNeg - 1 - k)))))))) (xu_uu _ _ _ _) ?_
    refine xr_iinc (v := nI (k + 1)) (lv' := [(7, .int (nI (k + 1))), (8, .int (nI (n.toNatClampNeg - 1 - k))), (6, .int 0), (0, .ref m), (1, .int a), (2, .int i), (3, .int b), (4, .int j), (5, .int n)]) X 1 dX12_copy_198 rfl (nI_1 _) rfl rfl ?_
    refine xr_goto (tgt := 143) X dX12_copy_201 (by decide) ?_
    refine xr_locs (lv' := [(7, .int (nI (k + 1))), (6, .int 0), (0, .ref m), (1, .int a), (2, .int i), (3, .int b), (4, .int j), (5, .int n)]) [0, 2, 3, 4, 5, 6, 7, 8] rfl ?_
    refine xr_heap (h' := (xu (xu h m (.inr (11, [.int 0, .int 0, .ref (m + 1), .ref (m + 2), .ref (m + 3), .ref (m + 4), .ref (m + 5), .ref (m + 6), .int ac, .ref (m + 7), .int tp, .int la, .int le, .int cu, .int tk, .int sa, .int ti, .int fa, .int fl, .ref (m + 8), .ref (m + 9), .ref (m + 10), .ref (m + 11), .int tr]))) (m + 3) (.inl (.int, 320, .inl (va_cpy item item ((40 * a.toNatClampNeg + i.toNatClampNeg) + (n.toNatClampNeg - (k + 1))) ((40 * b.toNatClampNeg + j.toNatClampNeg) + (n.toNatClampNeg - (k + 1))) (k + 1)))))) (by rw [show (40 * a.toNatClampNeg + i.toNatClampNeg) + (n.toNatClampNeg - (k + 1)) = (40 * a.toNatClampNeg + i.toNatClampNeg) + (n.toNatClampNeg - k) - 1 by omega, show (40 * b.toNatClampNeg + j.toNatClampNeg) + (n.toNatClampNeg - (k + 1)) = (40 * b.toNatClampNeg + j.toNatClampNeg) + (n.toNatClampNeg - k) - 1 by omega, ← cp_d (by omega) (by omega), show (40 * a.toNatClampNeg + i.toNatClampNeg) + (n.toNatClampNeg - k) - 1 = (40 * a.toNatClampNeg + i.toNatClampNeg) + (n.toNatClampNeg - 1 - k) by omega, show (40 * b.toNatClampNeg + j.toNatClampNeg) + (n.toNatClampNeg - k) - 1 = (40 * b.toNatClampNeg + j.toNatClampNeg) + (n.toNatClampNeg - 1 - k) by omega]) ?_
    exact ih (k + 1) (by omega)
set_option maxRecDepth 100000 in
theorem c_X12_copy {l : Launch} {Ω : xW} {h : xH} {sz : Nat} {m : Nat} {st ac tp la le cu tk sa ti fa fl tr : Int32} {lane many item : Nat → Int32} {a i b j n : Int32} (hm : h m = some (mO m st ac tp la le cu tk sa ti fa fl tr)) (hlane : h (m + 1) = some (.inl (.int, 8, .inl lane))) (hmany : h (m + 2) = some (.inl (.int, 8, .inl many))) (hitem : h (m + 3) = some (.inl (.int, 320, .inl item))) (hM : ∀ q, q < 8 → (many q).toInt ≤ 40) : xC l Ω yX12_copy cX12_copy 9 (some .int) 2 0 0 [.ref m, .int a, .int i, .int b, .int j, .int n] h sz (some (.int (a_copy lane many a i b j n))) (if (0 ≤ a.toInt ∧ a.toInt < 8) ∧ 0 ≤ b.toInt ∧ b.toInt < 8 then (if (lane a.toNatClampNeg).toInt < 0 ∨ (lane b.toNatClampNeg).toInt < 0 then (xu h m (.inr (11, [.int 0, .int 1, .ref (m + 1), .ref (m + 2), .ref (m + 3), .ref (m + 4), .ref (m + 5), .ref (m + 6), .int ac, .ref (m + 7), .int tp, .int la, .int le, .int cu, .int tk, .int sa, .int ti, .int fa, .int fl, .ref (m + 8), .ref (m + 9), .ref (m + 10), .ref (m + 11), .int tr]))) else if (lane a.toNatClampNeg).toInt = (lane b.toNatClampNeg).toInt then (if 0 ≤ i.toInt ∧ 0 ≤ j.toInt ∧ 0 ≤ n.toInt ∧ i.toInt + n.toInt ≤ (many a.toNatClampNeg).toInt ∧ j.toInt + n.toInt ≤ (many b.toNatClampNeg).toInt then (xu (xu h m (.inr (11, [.int 0, .int 0, .ref (m + 1), .ref (m + 2), .ref (m + 3), .ref (m + 4), .ref (m + 5), .ref (m + 6), .int ac, .ref (m + 7), .int tp, .int la, .int le, .int cu, .int tk, .int sa, .int ti, .int fa, .int fl, .ref (m + 8), .ref (m + 9), .ref (m + 10), .ref (m + 11), .int tr]))) (m + 3) (.inl (.int, 320, .inl (va_cpy item item (40 * a.toNatClampNeg + i.toNatClampNeg) (40 * b.toNatClampNeg + j.toNatClampNeg) n.toNatClampNeg)))) else (xu h m (.inr (11, [.int 0, .int 2, .ref (m + 1), .ref (m + 2), .ref (m + 3), .ref (m + 4), .ref (m + 5), .ref (m + 6), .int ac, .ref (m + 7), .int tp, .int la, .int le, .int cu, .int tk, .int sa, .int ti, .int fa, .int fl, .ref (m + 8), .ref (m + 9), .ref (m + 10), .ref (m + 11), .int tr])))) else (xu h m (.inr (11, [.int 0, .int 5, .ref (m + 1), .ref (m + 2), .ref (m + 3), .ref (m + 4), .ref (m + 5), .ref (m + 6), .int ac, .ref (m + 7), .int tp, .int la, .int le, .int cu, .int tk, .int sa, .int ti, .int fa, .int fl, .ref (m + 8), .ref (m + 9), .ref (m + 10), .ref (m + 11), .int tr])))) else h) (sz) := by
  refine xC_of (lv := [(0, .ref m), (1, .int a), (2, .int i), (3, .int b), (4, .int j), (5, .int n)]) pn_X12 rfl rfl (fun Γ X hΓ hbs => ?_)
  have X : xX Γ Ω cX12_copy 9 RX12 "copy" (some .int) 2 70 0 0 := X
  subst hΓ
  refine xr_aload_n X 0 dX12_copy_0 rfl rfl ?_
  refine xr_iconst (v := 0) X dX12_copy_1 (by decide) ?_
  refine xr_put (fs' := [.int 0, .int st, .ref (m + 1), .ref (m + 2), .ref (m + 3), .ref (m + 4), .ref (m + 5), .ref (m + 6), .int ac, .ref (m + 7), .int tp, .int la, .int le, .int cu, .int tk, .int sa, .int ti, .int fa, .int fl, .ref (m + 8), .ref (m + 9), .ref (m + 10), .ref (m + 11), .int tr]) X (fW_X12_44_11 _) hm rfl rfl rfl rfl dX12_copy_2 ?_
  refine xr_heap (h' := h) (xu_id hm) ?_
  refine xr_iload_n X 1 dX12_copy_5 rfl rfl ?_
  refine xr_callS X kw_1023 kw_1024 cw_X12_isRow [.int a] c_X12_isRow rfl rfl rfl rfl rfl rfl rfl dX12_copy_6 ?_
  refine xr_if_eq (tgt := 19) X dX12_copy_9 (by decide) (fun c_9 => ?_) (fun c_9 => ?_)
  · have c_9 := of_decide_eq_false (xb_0.mp c_9)
    (try simp (disch := omega) only [nI_toInt, i32_add, i32_sub, i32_mul, i64_addl, i32_l, k32_0, k32_8, k64_0, k64_8] at c_9)
    refine xr_ldc (v := (-1000001)) X kw_1031 dX12_copy_19 ?_
    exact xr_iret X rfl (xv (if_neg (by omega))) ((if_neg (by omega)).symm) rfl rfl rfl dX12_copy_21
  · have c_9 := of_decide_eq_true (xb_1.mp c_9)
    (try simp (disch := omega) only [nI_toInt, i32_add, i32_sub, i32_mul, i64_addl, i32_l, k32_0, k32_8, k64_0, k64_8] at c_9)
    refine xr_iload_n X 3 dX12_copy_12 rfl rfl ?_
    refine xr_callS X kw_1023 kw_1024 cw_X12_isRow [.int b] c_X12_isRow rfl rfl rfl rfl rfl rfl rfl dX12_copy_13 ?_
    refine xr_if_ne (tgt := 22) X dX12_copy_16 (by decide) (fun c_16 => ?_) (fun c_16 => ?_)
    · have c_16 := of_decide_eq_true (xb_1.mp c_16)
      (try simp (disch := omega) only [nI_toInt, i32_add, i32_sub, i32_mul, i64_addl, i32_l, k32_0, k32_8, k64_0, k64_8] at c_16)
      have tna := (i32_tn (x := a) (by omega)).2
      have tnb := (i32_tn (x := b) (by omega)).2
      have hMa := hM a.toNatClampNeg (by omega)
      have hMb := hM b.toNatClampNeg (by omega)
      have rgi := i32_rng i
      have rgj := i32_rng j
      have rgn := i32_rng n
      refine xr_aload_n X 0 dX12_copy_22 rfl rfl ?_
      refine xr_iconst (v := 0) X dX12_copy_23 (by decide) ?_
      refine xr_put (fs' := [.int 0, .int 0, .ref (m + 1), .ref (m + 2), .ref (m + 3), .ref (m + 4), .ref (m + 5), .ref (m + 6), .int ac, .ref (m + 7), .int tp, .int la, .int le, .int cu, .int tk, .int sa, .int ti, .int fa, .int fl, .ref (m + 8), .ref (m + 9), .ref (m + 10), .ref (m + 11), .int tr]) X (fW_X12_48_11 _) hm rfl rfl rfl rfl dX12_copy_24 ?_
      refine xr_aload_n X 0 dX12_copy_27 rfl rfl ?_
      refine xr_get X fF_X12_7_11 (xu_s _ _ _) rfl dX12_copy_28 ?_
      refine xr_iload_n X 1 dX12_copy_31 rfl rfl ?_
      refine xr_iald (j := a.toNatClampNeg) X (xu_at (xn1 _ rfl) hlane) (xI_c (by omega) (by omega)) dX12_copy_32 ?_
      refine xr_if_lt (tgt := 45) X dX12_copy_33 (by decide) (fun c_33 => ?_) (fun c_33 => ?_)
      · have c_33 := i32_lt.mp c_33
        (try simp (disch := omega) only [nI_toInt, i32_add, i32_sub, i32_mul, i64_addl, i32_l, k32_0, k64_0] at c_33)
        refine xr_aload_n X 0 dX12_copy_45 rfl rfl ?_
        refine xr_iconst (v := 1) X dX12_copy_46 (by decide) ?_
        refine xr_callV X (xu_s _ _ _) rfl kw_1032 kw_1034 kw_21 cw_X12_finding [.int 1] (c_X12_finding (xu_s _ _ _)) rfl rfl rfl rfl rfl rfl rfl dX12_copy_47 ?_
        refine xr_heap (h' := (xu h m (.inr (11, [.int 0, .int 1, .ref (m + 1), .ref (m + 2), .ref (m + 3), .ref (m + 4), .ref (m + 5), .ref (m + 6), .int ac, .ref (m + 7), .int tp, .int la, .int le, .int cu, .int tk, .int sa, .int ti, .int fa, .int fl, .ref (m + 8), .ref (m + 9), .ref (m + 10), .ref (m + 11), .int tr])))) (xu_uu _ _ _ _) ?_
        exact xr_iret X rfl (xv ((if_pos (by omega)).trans (if_pos (by omega)))) (((if_pos (by omega)).trans (if_pos (by omega))).symm) rfl rfl rfl dX12_copy_50
      · have c_33 := mt i32_lt.mpr c_33
        (try simp (disch := omega) only [nI_toInt, i32_add, i32_sub, i32_mul, i64_addl, i32_l, k32_0, k64_0] at c_33)
        refine xr_aload_n X 0 dX12_copy_36 rfl rfl ?_
        refine xr_get X fF_X12_7_11 (xu_s _ _ _) rfl dX12_copy_37 ?_
        refine xr_iload_n X 3 dX12_copy_40 rfl rfl ?_
        refine xr_iald (j := b.toNatClampNeg) X (xu_at (xn1 _ rfl) hlane) (xI_c (by omega) (by omega)) dX12_copy_41 ?_
        refine xr_if_ge (tgt := 51) X dX12_copy_42 (by decide) (fun c_42 => ?_) (fun c_42 => ?_)
        · have c_42 := i32_le.mp c_42
          (try simp (disch := omega) only [nI_toInt, i32_add, i32_sub, i32_mul, i64_addl, i32_l, k32_0, k64_0] at c_42)
          refine xr_aload_n X 0 dX12_copy_51 rfl rfl ?_
          refine xr_get X fF_X12_7_11 (xu_s _ _ _) rfl dX12_copy_52 ?_
          refine xr_iload_n X 1 dX12_copy_55 rfl rfl ?_
          refine xr_iald (j := a.toNatClampNeg) X (xu_at (xn1 _ rfl) hlane) (xI_c (by omega) (by omega)) dX12_copy_56 ?_
          refine xr_aload_n X 0 dX12_copy_57 rfl rfl ?_
          refine xr_get X fF_X12_7_11 (xu_s _ _ _) rfl dX12_copy_58 ?_
          refine xr_iload_n X 3 dX12_copy_61 rfl rfl ?_
          refine xr_iald (j := b.toNatClampNeg) X (xu_at (xn1 _ rfl) hlane) (xI_c (by omega) (by omega)) dX12_copy_62 ?_
          refine xr_icmp_eq (tgt := 72) X dX12_copy_63 (by decide) (fun c_63 => ?_) (fun c_63 => ?_)
          · have c_63 := i32_eq.mp c_63
            (try simp (disch := omega) only [nI_toInt, i32_add, i32_sub, i32_mul, i64_addl, i32_l] at c_63)
            refine xr_iload_n X 2 dX12_copy_72 rfl rfl ?_
            refine xr_if_lt (tgt := 121) X dX12_copy_73 (by decide) (fun c_73 => ?_) (fun c_73 => ?_)
            · have c_73 := i32_lt.mp c_73
              (try simp (disch := omega) only [nI_toInt, i32_add, i32_sub, i32_mul, i64_addl, i32_l, k32_0, k64_0] at c_73)
              refine xr_aload_n X 0 dX12_copy_121 rfl rfl ?_
              refine xr_iconst (v := 2) X dX12_copy_122 (by decide) ?_
              refine xr_callV X (xu_s _ _ _) rfl kw_1032 kw_1034 kw_21 cw_X12_finding [.int 2] (c_X12_finding (xu_s _ _ _)) rfl rfl rfl rfl rfl rfl rfl dX12_copy_123 ?_
              refine xr_heap (h' := (xu h m (.inr (11, [.int 0, .int 2, .ref (m + 1), .ref (m + 2), .ref (m + 3), .ref (m + 4), .ref (m + 5), .ref (m + 6), .int ac, .ref (m + 7), .int tp, .int la, .int le, .int cu, .int tk, .int sa, .int ti, .int fa, .int fl, .ref (m + 8), .ref (m + 9), .ref (m + 10), .ref (m + 11), .int tr])))) (xu_uu _ _ _ _) ?_
              exact xr_iret X rfl (xv ((((if_pos (by omega)).trans (if_neg (by omega))).trans (if_pos (by omega))).trans (if_neg (by omega)))) (((((if_pos (by omega)).trans (if_neg (by omega))).trans (if_pos (by omega))).trans (if_neg (by omega))).symm) rfl rfl rfl dX12_copy_126
            · have c_73 := mt i32_lt.mpr c_73
              (try simp (disch := omega) only [nI_toInt, i32_add, i32_sub, i32_mul, i64_addl, i32_l, k32_0, k64_0] at c_73)
              refine xr_iload X 4 dX12_copy_76 rfl ?_
              refine xr_if_lt (tgt := 121) X dX12_copy_78 (by decide) (fun c_78 => ?_) (fun c_78 => ?_)
              · have c_78 := i32_lt.mp c_78
                (try simp (disch := omega) only [nI_toInt, i32_add, i32_sub, i32_mul, i64_addl, i32_l, k32_0, k64_0] at c_78)
                refine xr_aload_n X 0 dX12_copy_121 rfl rfl ?_
                refine xr_iconst (v := 2) X dX12_copy_122 (by decide) ?_
                refine xr_callV X (xu_s _ _ _) rfl kw_1032 kw_1034 kw_21 cw_X12_finding [.int 2] (c_X12_finding (xu_s _ _ _)) rfl rfl rfl rfl rfl rfl rfl dX12_copy_123 ?_
                refine xr_heap (h' := (xu h m (.inr (11, [.int 0, .int 2, .ref (m + 1), .ref (m + 2), .ref (m + 3), .ref (m + 4), .ref (m + 5), .ref (m + 6), .int ac, .ref (m + 7), .int tp, .int la, .int le, .int cu, .int tk, .int sa, .int ti, .int fa, .int fl, .ref (m + 8), .ref (m + 9), .ref (m + 10), .ref (m + 11), .int tr])))) (xu_uu _ _ _ _) ?_
                exact xr_iret X rfl (xv ((((if_pos (by omega)).trans (if_neg (by omega))).trans (if_pos (by omega))).trans (if_neg (by omega)))) (((((if_pos (by omega)).trans (if_neg (by omega))).trans (if_pos (by omega))).trans (if_neg (by omega))).symm) rfl rfl rfl dX12_copy_126
              · have c_78 := mt i32_lt.mpr c_78
                (try simp (disch := omega) only [nI_toInt, i32_add, i32_sub, i32_mul, i64_addl, i32_l, k32_0, k64_0] at c_78)
                refine xr_iload X 5 dX12_copy_81 rfl ?_
                refine xr_if_lt (tgt := 121) X dX12_copy_83 (by decide) (fun c_83 => ?_) (fun c_83 => ?_)
                · have c_83 := i32_lt.mp c_83
                  (try simp (disch := omega) only [nI_toInt, i32_add, i32_sub, i32_mul, i64_addl, i32_l, k32_0, k64_0] at c_83)
                  refine xr_aload_n X 0 dX12_copy_121 rfl rfl ?_
                  refine xr_iconst (v := 2) X dX12_copy_122 (by decide) ?_
                  refine xr_callV X (xu_s _ _ _) rfl kw_1032 kw_1034 kw_21 cw_X12_finding [.int 2] (c_X12_finding (xu_s _ _ _)) rfl rfl rfl rfl rfl rfl rfl dX12_copy_123 ?_
                  refine xr_heap (h' := (xu h m (.inr (11, [.int 0, .int 2, .ref (m + 1), .ref (m + 2), .ref (m + 3), .ref (m + 4), .ref (m + 5), .ref (m + 6), .int ac, .ref (m + 7), .int tp, .int la, .int le, .int cu, .int tk, .int sa, .int ti, .int fa, .int fl, .ref (m + 8), .ref (m + 9), .ref (m + 10), .ref (m + 11), .int tr])))) (xu_uu _ _ _ _) ?_
                  exact xr_iret X rfl (xv ((((if_pos (by omega)).trans (if_neg (by omega))).trans (if_pos (by omega))).trans (if_neg (by omega)))) (((((if_pos (by omega)).trans (if_neg (by omega))).trans (if_pos (by omega))).trans (if_neg (by omega))).symm) rfl rfl rfl dX12_copy_126
                · have c_83 := mt i32_lt.mpr c_83
                  (try simp (disch := omega) only [nI_toInt, i32_add, i32_sub, i32_mul, i64_addl, i32_l, k32_0, k64_0] at c_83)
                  refine xr_iload_n X 2 dX12_copy_86 rfl rfl ?_
                  refine xr_i2l X dX12_copy_87 ?_
                  refine xr_iload X 5 dX12_copy_88 rfl ?_
                  refine xr_i2l X dX12_copy_90 ?_
                  refine xr_ladd X dX12_copy_91 ?_
                  refine xr_aload_n X 0 dX12_copy_92 rfl rfl ?_
                  refine xr_get X fF_X12_13_11 (xu_s _ _ _) rfl dX12_copy_93 ?_
                  refine xr_iload_n X 1 dX12_copy_96 rfl rfl ?_
                  refine xr_iald (j := a.toNatClampNeg) X (xu_at (xn1 _ rfl) hmany) (xI_c (by omega) (by omega)) dX12_copy_97 ?_
                  refine xr_i2l X dX12_copy_98 ?_
                  refine xr_lcmp X dX12_copy_99 ?_
                  refine xr_if_gt (tgt := 121) X dX12_copy_100 (by decide) (fun c_100 => ?_) (fun c_100 => ?_)
                  · have c_100 := lgc_gt.mp c_100
                    (try simp (disch := omega) only [nI_toInt, i32_add, i32_sub, i32_mul, i64_addl, i32_l] at c_100)
                    refine xr_aload_n X 0 dX12_copy_121 rfl rfl ?_
                    refine xr_iconst (v := 2) X dX12_copy_122 (by decide) ?_
                    refine xr_callV X (xu_s _ _ _) rfl kw_1032 kw_1034 kw_21 cw_X12_finding [.int 2] (c_X12_finding (xu_s _ _ _)) rfl rfl rfl rfl rfl rfl rfl dX12_copy_123 ?_
                    refine xr_heap (h' := (xu h m (.inr (11, [.int 0, .int 2, .ref (m + 1), .ref (m + 2), .ref (m + 3), .ref (m + 4), .ref (m + 5), .ref (m + 6), .int ac, .ref (m + 7), .int tp, .int la, .int le, .int cu, .int tk, .int sa, .int ti, .int fa, .int fl, .ref (m + 8), .ref (m + 9), .ref (m + 10), .ref (m + 11), .int tr])))) (xu_uu _ _ _ _) ?_
                    exact xr_iret X rfl (xv ((((if_pos (by omega)).trans (if_neg (by omega))).trans (if_pos (by omega))).trans (if_neg (by omega)))) (((((if_pos (by omega)).trans (if_neg (by omega))).trans (if_pos (by omega))).trans (if_neg (by omega))).symm) rfl rfl rfl dX12_copy_126
                  · have c_100 := mt lgc_gt.mpr c_100
                    (try simp (disch := omega) only [nI_toInt, i32_add, i32_sub, i32_mul, i64_addl, i32_l] at c_100)
                    refine xr_iload X 4 dX12_copy_103 rfl ?_
                    refine xr_i2l X dX12_copy_105 ?_
                    refine xr_iload X 5 dX12_copy_106 rfl ?_
                    refine xr_i2l X dX12_copy_108 ?_
                    refine xr_ladd X dX12_copy_109 ?_
                    refine xr_aload_n X 0 dX12_copy_110 rfl rfl ?_
                    refine xr_get X fF_X12_13_11 (xu_s _ _ _) rfl dX12_copy_111 ?_
                    refine xr_iload_n X 3 dX12_copy_114 rfl rfl ?_
                    refine xr_iald (j := b.toNatClampNeg) X (xu_at (xn1 _ rfl) hmany) (xI_c (by omega) (by omega)) dX12_copy_115 ?_
                    refine xr_i2l X dX12_copy_116 ?_
                    refine xr_lcmp X dX12_copy_117 ?_
                    refine xr_if_le (tgt := 127) X dX12_copy_118 (by decide) (fun c_118 => ?_) (fun c_118 => ?_)
                    · have c_118 := lgc_le.mp c_118
                      (try simp (disch := omega) only [nI_toInt, i32_add, i32_sub, i32_mul, i64_addl, i32_l] at c_118)
                      have tni := (i32_tn (x := i) (by omega)).2
                      have tnj := (i32_tn (x := j) (by omega)).2
                      have tnn := (i32_tn (x := n) (by omega)).2
                      refine xr_iload_n X 2 dX12_copy_127 rfl rfl ?_
                      refine xr_iload X 4 dX12_copy_128 rfl ?_
                      refine xr_icmp_lt (tgt := 137) X dX12_copy_130 (by decide) (fun c_130 => ?_) (fun c_130 => ?_)
                      · have c_130 := i32_lt.mp c_130
                        (try simp (disch := omega) only [nI_toInt, i32_add, i32_sub, i32_mul, i64_addl, i32_l] at c_130)
                        refine xr_iconst (v := 0) X dX12_copy_137 (by decide) ?_
                        refine xr_istore (lv' := [(6, .int 0), (0, .ref m), (1, .int a), (2, .int i), (3, .int b), (4, .int j), (5, .int n)]) X dX12_copy_138 rfl rfl ?_
                        refine xr_iconst (v := 0) X dX12_copy_140 (by decide) ?_
                        refine xr_istore (lv' := [(7, .int 0), (6, .int 0), (0, .ref m), (1, .int a), (2, .int i), (3, .int b), (4, .int j), (5, .int n)]) X dX12_copy_141 rfl rfl ?_
                        rw [show a_copy lane many a i b j n = n from ((((if_pos (by omega)).trans (if_neg (by omega))).trans (if_pos (by omega))).trans (if_pos (by omega))), if_pos (show (0 ≤ a.toInt ∧ a.toInt < 8) ∧ 0 ≤ b.toInt ∧ b.toInt < 8 by omega), if_neg (show ¬ ((lane a.toNatClampNeg).toInt < 0 ∨ (lane b.toNatClampNeg).toInt < 0) by omega), if_pos (show (lane a.toNatClampNeg).toInt = (lane b.toNatClampNeg).toInt by omega), if_pos (show 0 ≤ i.toInt ∧ 0 ≤ j.toInt ∧ 0 ≤ n.toInt ∧ i.toInt + n.toInt ≤ (many a.toNatClampNeg).toInt ∧ j.toInt + n.toInt ≤ (many b.toNatClampNeg).toInt by omega)]
                        refine xr_heap (h' := (xu (xu h m (.inr (11, [.int 0, .int 0, .ref (m + 1), .ref (m + 2), .ref (m + 3), .ref (m + 4), .ref (m + 5), .ref (m + 6), .int ac, .ref (m + 7), .int tp, .int la, .int le, .int cu, .int tk, .int sa, .int ti, .int fa, .int fl, .ref (m + 8), .ref (m + 9), .ref (m + 10), .ref (m + 11), .int tr]))) (m + 3) (.inl (.int, 320, .inl (va_cpy item item ((40 * a.toNatClampNeg + i.toNatClampNeg) + (n.toNatClampNeg - 0)) ((40 * b.toNatClampNeg + j.toNatClampNeg) + (n.toNatClampNeg - 0)) 0))))) (by rw [cp_0]; exact (xu_id (xu_at (xn1 _ rfl) hitem)).symm) ?_
                        exact l_X12_copy_d X hm hlane hmany hitem hM (i32_tn (by omega)).2 (i32_tn (by omega)).2 (i32_tn (by omega)).2 (i32_tn (by omega)).2 (i32_tn (by omega)).2 (by have := (i32_tn (x := a) (by omega)).2; omega) (by have := (i32_tn (x := b) (by omega)).2; omega) (by omega) (by omega) (by omega) n.toNatClampNeg 0 (by omega)
                      · have c_130 := mt i32_lt.mpr c_130
                        (try simp (disch := omega) only [nI_toInt, i32_add, i32_sub, i32_mul, i64_addl, i32_l] at c_130)
                        refine xr_iconst (v := 1) X dX12_copy_133 (by decide) ?_
                        refine xr_goto (tgt := 138) X dX12_copy_134 (by decide) ?_
                        refine xr_istore (lv' := [(6, .int 1), (0, .ref m), (1, .int a), (2, .int i), (3, .int b), (4, .int j), (5, .int n)]) X dX12_copy_138 rfl rfl ?_
                        refine xr_iconst (v := 0) X dX12_copy_140 (by decide) ?_
                        refine xr_istore (lv' := [(7, .int 0), (6, .int 1), (0, .ref m), (1, .int a), (2, .int i), (3, .int b), (4, .int j), (5, .int n)]) X dX12_copy_141 rfl rfl ?_
                        rw [show a_copy lane many a i b j n = n from ((((if_pos (by omega)).trans (if_neg (by omega))).trans (if_pos (by omega))).trans (if_pos (by omega))), if_pos (show (0 ≤ a.toInt ∧ a.toInt < 8) ∧ 0 ≤ b.toInt ∧ b.toInt < 8 by omega), if_neg (show ¬ ((lane a.toNatClampNeg).toInt < 0 ∨ (lane b.toNatClampNeg).toInt < 0) by omega), if_pos (show (lane a.toNatClampNeg).toInt = (lane b.toNatClampNeg).toInt by omega), if_pos (show 0 ≤ i.toInt ∧ 0 ≤ j.toInt ∧ 0 ≤ n.toInt ∧ i.toInt + n.toInt ≤ (many a.toNatClampNeg).toInt ∧ j.toInt + n.toInt ≤ (many b.toNatClampNeg).toInt by omega)]
                        refine xr_heap (h' := (xu (xu h m (.inr (11, [.int 0, .int 0, .ref (m + 1), .ref (m + 2), .ref (m + 3), .ref (m + 4), .ref (m + 5), .ref (m + 6), .int ac, .ref (m + 7), .int tp, .int la, .int le, .int cu, .int tk, .int sa, .int ti, .int fa, .int fl, .ref (m + 8), .ref (m + 9), .ref (m + 10), .ref (m + 11), .int tr]))) (m + 3) (.inl (.int, 320, .inl (va_cpy item item (40 * a.toNatClampNeg + i.toNatClampNeg) (40 * b.toNatClampNeg + j.toNatClampNeg) 0))))) (by rw [cp_0]; exact (xu_id (xu_at (xn1 _ rfl) hitem)).symm) ?_
                        exact l_X12_copy_u X hm hlane hmany hitem hM (i32_tn (by omega)).2 (i32_tn (by omega)).2 (i32_tn (by omega)).2 (i32_tn (by omega)).2 (i32_tn (by omega)).2 (by have := (i32_tn (x := a) (by omega)).2; omega) (by have := (i32_tn (x := b) (by omega)).2; omega) (by omega) (by omega) (by omega) n.toNatClampNeg 0 (by omega)
                    · have c_118 := mt lgc_le.mpr c_118
                      (try simp (disch := omega) only [nI_toInt, i32_add, i32_sub, i32_mul, i64_addl, i32_l] at c_118)
                      refine xr_aload_n X 0 dX12_copy_121 rfl rfl ?_
                      refine xr_iconst (v := 2) X dX12_copy_122 (by decide) ?_
                      refine xr_callV X (xu_s _ _ _) rfl kw_1032 kw_1034 kw_21 cw_X12_finding [.int 2] (c_X12_finding (xu_s _ _ _)) rfl rfl rfl rfl rfl rfl rfl dX12_copy_123 ?_
                      refine xr_heap (h' := (xu h m (.inr (11, [.int 0, .int 2, .ref (m + 1), .ref (m + 2), .ref (m + 3), .ref (m + 4), .ref (m + 5), .ref (m + 6), .int ac, .ref (m + 7), .int tp, .int la, .int le, .int cu, .int tk, .int sa, .int ti, .int fa, .int fl, .ref (m + 8), .ref (m + 9), .ref (m + 10), .ref (m + 11), .int tr])))) (xu_uu _ _ _ _) ?_
                      exact xr_iret X rfl (xv ((((if_pos (by omega)).trans (if_neg (by omega))).trans (if_pos (by omega))).trans (if_neg (by omega)))) (((((if_pos (by omega)).trans (if_neg (by omega))).trans (if_pos (by omega))).trans (if_neg (by omega))).symm) rfl rfl rfl dX12_copy_126
          · have c_63 := mt i32_eq.mpr c_63
            (try simp (disch := omega) only [nI_toInt, i32_add, i32_sub, i32_mul, i64_addl, i32_l] at c_63)
            refine xr_aload_n X 0 dX12_copy_66 rfl rfl ?_
            refine xr_iconst (v := 5) X dX12_copy_67 (by decide) ?_
            refine xr_callV X (xu_s _ _ _) rfl kw_1032 kw_1034 kw_21 cw_X12_finding [.int 5] (c_X12_finding (xu_s _ _ _)) rfl rfl rfl rfl rfl rfl rfl dX12_copy_68 ?_
            refine xr_heap (h' := (xu h m (.inr (11, [.int 0, .int 5, .ref (m + 1), .ref (m + 2), .ref (m + 3), .ref (m + 4), .ref (m + 5), .ref (m + 6), .int ac, .ref (m + 7), .int tp, .int la, .int le, .int cu, .int tk, .int sa, .int ti, .int fa, .int fl, .ref (m + 8), .ref (m + 9), .ref (m + 10), .ref (m + 11), .int tr])))) (xu_uu _ _ _ _) ?_
            exact xr_iret X rfl (xv (((if_pos (by omega)).trans (if_neg (by omega))).trans (if_neg (by omega)))) ((((if_pos (by omega)).trans (if_neg (by omega))).trans (if_neg (by omega))).symm) rfl rfl rfl dX12_copy_71
        · have c_42 := mt i32_le.mpr c_42
          (try simp (disch := omega) only [nI_toInt, i32_add, i32_sub, i32_mul, i64_addl, i32_l, k32_0, k64_0] at c_42)
          refine xr_aload_n X 0 dX12_copy_45 rfl rfl ?_
          refine xr_iconst (v := 1) X dX12_copy_46 (by decide) ?_
          refine xr_callV X (xu_s _ _ _) rfl kw_1032 kw_1034 kw_21 cw_X12_finding [.int 1] (c_X12_finding (xu_s _ _ _)) rfl rfl rfl rfl rfl rfl rfl dX12_copy_47 ?_
          refine xr_heap (h' := (xu h m (.inr (11, [.int 0, .int 1, .ref (m + 1), .ref (m + 2), .ref (m + 3), .ref (m + 4), .ref (m + 5), .ref (m + 6), .int ac, .ref (m + 7), .int tp, .int la, .int le, .int cu, .int tk, .int sa, .int ti, .int fa, .int fl, .ref (m + 8), .ref (m + 9), .ref (m + 10), .ref (m + 11), .int tr])))) (xu_uu _ _ _ _) ?_
          exact xr_iret X rfl (xv ((if_pos (by omega)).trans (if_pos (by omega)))) (((if_pos (by omega)).trans (if_pos (by omega))).symm) rfl rfl rfl dX12_copy_50
    · have c_16 := of_decide_eq_false (xb_0.mp c_16)
      (try simp (disch := omega) only [nI_toInt, i32_add, i32_sub, i32_mul, i64_addl, i32_l, k32_0, k32_8, k64_0, k64_8] at c_16)
      refine xr_ldc (v := (-1000001)) X kw_1031 dX12_copy_19 ?_
      exact xr_iret X rfl (xv (if_neg (by omega))) ((if_neg (by omega)).symm) rfl rfl rfl dX12_copy_21
