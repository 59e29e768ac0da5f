theorem finP_out {e : Nat} {t : Nat → Nat} {L : Nat} {fa : Int32} {a : Nat} : ∀ {n i : Nat} {h : xH} {sz : Nat} {pf : Nat → Option Nat}, a ≠ e + 13 → a ≠ e + 15 → (a < sz ∨ sz + n ≤ a) → finP e t L fa n i h sz pf a = h a
  | 0, i, h, sz, pf, _, _, _ => rfl
  | n + 1, i, h, sz, pf, h1, h2, h3 => by
    rw [finP, finP_out (n := n) h1 h2 (by omega)]
    unfold rpS
    rw [xu_n h2, xu_n (by omega), xu_n h1]
theorem finP_15 {e : Nat} {t : Nat → Nat} {L : Nat} {fa : Int32} : ∀ {n i : Nat} {h : xH} {sz : Nat} {pf : Nat → Option Nat}, h (e + 15) = some (pAr pf) → finP e t L fa n i h sz pf (e + 15) = some (pAr (fun q => if i ≤ q ∧ q < i + n then some (sz + (q - i)) else pf q))
  | 0, i, h, sz, pf, g => by
    rw [finP, g]
    congr 2
    funext q
    rw [if_neg (by omega)]
  | n + 1, i, h, sz, pf, g => by
    rw [finP, finP_15 (n := n) (pf := va_up pf i (some sz)) (by unfold rpS; exact xu_s _ _ _)]
    congr 2
    funext q
    unfold va_up
    by_cases c : q = i
    · subst c
      rw [if_neg (by omega), if_pos rfl, if_pos (by omega), Nat.sub_self, Nat.add_zero]
    · by_cases c2 : i + 1 ≤ q ∧ q < i + 1 + n
      · rw [if_pos c2, if_pos (by omega), show sz + 1 + (q - (i + 1)) = sz + (q - i) by omega]
      · rw [if_neg c2, if_neg c, if_neg (by omega)]
theorem finP_p {e : Nat} {t : Nat → Nat} {L : Nat} {fa : Int32} : ∀ {n i j : Nat} {h : xH} {sz : Nat} {pf : Nat → Option Nat}, j < n → e + 16 ≤ sz → finP e t L fa n i h sz pf (sz + j) = some (pOb t L (i + j))
  | n + 1, i, 0, h, sz, pf, _, hs => by
    rw [finP, finP_out (n := n) (by omega) (by omega) (by omega)]
    unfold rpS
    exact xu_at (by omega) (xu_s _ _ _)
  | n + 1, i, j + 1, h, sz, pf, hj, hs => by
    rw [finP, show sz + (j + 1) = sz + 1 + j by omega, finP_p (n := n) (by omega) (by omega), show i + 1 + j = i + (j + 1) by omega]
/-- the cells behind a reading -/
def tH (e : Nat) (t : Nat → Nat) (L : Nat) (fa : Int32) (N : Nat) (h : xH) (sz : Nat) (pf : Nat → Option Nat) (fz : Int32) (q : Nat) : xH := xu (finP e t L fa N 0 (xu h (e + 13) (kQ e t L (nI L) 0 fa 0)) sz pf) (e + 13) (kQ e t L 0 (nI N) fz q)
def pfN (sz N : Nat) (pf : Nat → Option Nat) : Nat → Option Nat := fun q => if q < N then some (sz + q) else pf q
theorem tH_13 {e : Nat} {t : Nat → Nat} {L : Nat} {fa : Int32} {N : Nat} {h : xH} {sz : Nat} {pf : Nat → Option Nat} {fz : Int32} {q : Nat} : tH e t L fa N h sz pf fz q (e + 13) = some (kQ e t L 0 (nI N) fz q) := xu_s _ _ _
theorem tH_15 {e : Nat} {t : Nat → Nat} {L : Nat} {fa : Int32} {N : Nat} {h : xH} {sz : Nat} {pf : Nat → Option Nat} {fz : Int32} {q : Nat} (g : h (e + 15) = some (pAr pf)) : tH e t L fa N h sz pf fz q (e + 15) = some (pAr (pfN sz N pf)) := by
  refine xu_at (by omega) ?_
  rw [finP_15 (xu_at (by omega) g)]
  congr 2
  funext q
  unfold pfN
  by_cases c : q < N
  · rw [if_pos (by omega), if_pos c, Nat.sub_zero]
  · rw [if_neg (by omega), if_neg c]
theorem tH_p {e : Nat} {t : Nat → Nat} {L : Nat} {fa : Int32} {N : Nat} {h : xH} {sz : Nat} {pf : Nat → Option Nat} {fz : Int32} {q i : Nat} (hi : i < N) (hs : e + 16 ≤ sz) : tH e t L fa N h sz pf fz q (sz + i) = some (pOb t L i) := by
  refine xu_at (by omega) ?_
  rw [finP_p hi hs, Nat.zero_add]
theorem tH_out {e : Nat} {t : Nat → Nat} {L : Nat} {fa : Int32} {N : Nat} {h : xH} {sz : Nat} {pf : Nat → Option Nat} {fz : Int32} {q a : Nat} {o : Option xE} (h1 : a ≠ e + 13) (h2 : a ≠ e + 15) (h3 : a < sz ∨ sz + N ≤ a) (g : h a = o) : tH e t L fa N h sz pf fz q a = o := by
  refine xu_at h1 ?_
  rw [finP_out h1 h2 h3]
  exact xu_at h1 g
theorem kiW_5 (t : Nat → Nat) (L p : Nat) : kiW t L p ≤ 5 := by
  unfold kiW
  repeat' split
  all_goals omega
theorem rdR_pw {t : Nat → Nat} {L N : Nat} (hR : rdR t L 7 0 = (N, none)) : N ≤ 6 ∧ 0 < N ∧ ∀ p, p < N → 1 ≤ kdR t L p ∧ kdR t L p ≤ 5 ∧ whR t L p ≤ 5 ∧ mnR t L p ≤ 9 := by
  obtain ⟨h1, h2, h3, h4, -⟩ := rdR_ok (by omega) hR rfl
  refine ⟨h2, h3, fun p hp => ?_⟩
  obtain ⟨-, -, g3, -, g5, -, g7, -⟩ := rdF_ok (h4 p (by omega) hp)
  exact ⟨Nat.pos_of_ne_zero g3, kiW_5 _ _ _, g5, g7⟩
theorem tH_pw {e : Nat} {t : Nat → Nat} {L : Nat} {fa : Int32} {N : Nat} {h : xH} {sz : Nat} {pf : Nat → Option Nat} {fz : Int32} {q B : Nat} (hR : rdR t L 7 0 = (N, none)) (hs : e + 16 ≤ sz) (hB : B ≤ sz) : PW B (tH e t L fa N h sz pf fz q) (pfN sz N pf) N (kdR t L) (whR t L) (mnR t L) := fun p hp =>
  ⟨⟨sz + p, if_pos hp, by omega, tH_p hp hs⟩, (rdR_pw hR).2.2 p hp⟩
set_option maxRecDepth 100000 in
theorem c_X11_town {l : Launch} {Ω : xW} {h : xH} {sz : Nat} {e w : Nat} {ac st d9 b9 m9 : Int32} {np : Nat} {pr fa tk fi be : Int32} {bt : Nat → Int32} {t : Nat → Nat} {L N : Nat} {pf pw : Nat → Option Nat} {fr : Nat → Int32} (heo : h e = some (eO e w ac st)) (hw : w = e + 16) (hko : h (e + 13) = some (kO e (nI L) pr fa tk fi be)) (hbt : h (e + 14) = some (.inl (.byte, 300, .inl bt))) (hB : ∀ q, q < L → bt q = sb (t q)) (ht : ∀ q, q < L → t q < 256) (hL : L ≤ 300) (hpf : h (e + 15) = some (pAr pf)) (hto : h w = some (tO w (nI np) d9 b9 m9)) (htp : h (w + 1) = some (.inl (.object "EvePost$Person", 6, .inr (.inr (.inr (.inr pw)))))) (htf : h (w + 2) = some (.inl (.int, 64, .inl fr))) (hsz : e + 49 ≤ sz) (hR : rdR t L 7 0 = (N, none)) : xC l Ω yX11_town cX11_town 2 (some .int) 8 7 21 [.ref e] h sz (some (.int (nI N))) (xu (xu (xu (xu (tH e t L fa N h sz pf fa (pAt t L N)) w (.inr (7, [.ref (w + 1), .int (nI N), .int (0), .int (0), .ref (w + 2), .int (nI (moM (kdR t L) N))]))) (w + 1) (.inl (.object "EvePost$Person", 6, .inr (.inr (.inr (.inr (cpq (pfN sz N pf) pw N))))))) (w + 2) (.inl (.int, 64, .inl (frZ (kdR t L) (whR t L) (mnR t L) N fr (2 ^ N))))) e (.inr (10, [.ref (e + 1), .ref (e + 13), .ref w, .ref (e + 19), .ref (e + 20), .ref (e + 28), .ref (e + 30), .int (0), .int (st)]))) ((sz + N)) := by
  refine xC_of (lv := [(0, .ref e)]) pn_X11 rfl rfl (fun Γ X hΓ hbs => ?_)
  have X : xX Γ Ω cX11_town 2 RX11 "town" (some .int) 8 280 7 21 := X
  subst hΓ
  refine xr_aload_n X 0 dX11_town_0 rfl rfl ?_
  refine xr_get X fF_X11_19_10 heo rfl dX11_town_1 ?_
  refine xr_callV X hko rfl kw_307 kw_308 kw_309 cw_X7_read [] (c_X7_read hko hbt hB ht hL hpf (by omega) hR) rfl rfl rfl rfl rfl rfl rfl dX11_town_4 ?_
  refine xr_istore_n (lv' := [(1, .int (-1)), (0, .ref e)]) X dX11_town_7 rfl rfl rfl ?_
  refine xr_iload_n X 0 dX11_town_8 rfl rfl ?_
  refine xr_iconst (v := (-1)) X dX11_town_9 (by decide) ?_
  refine xr_icmp_eq (tgt := 18) X dX11_town_10 (by decide) (fun _ => ?_) (fun c_10 => absurd rfl c_10)
  refine xr_aload_n X 1 dX11_town_18 rfl rfl ?_
  refine xr_get X fF_X11_26_10 (tH_out (by omega) (by omega) (by omega) heo) rfl dX11_town_19 ?_
  refine xr_aload_n X 1 dX11_town_22 rfl rfl ?_
  refine xr_get X fF_X11_19_10 (tH_out (by omega) (by omega) (by omega) heo) rfl dX11_town_23 ?_
  refine xr_callV X (tH_out (by omega) (by omega) (by omega) hto) rfl kw_484 kw_485 kw_486 cw_X8_settle [.ref (e + 13)] (c_X8_settle (B := e + 49) (kd := kdR t L) (wh := whR t L) (mn := mnR t L) (pt := pfN sz N pf) (tH_out (by omega) (by omega) (by omega) hto) (tH_out (by omega) (by omega) (by omega) htp) (tH_out (by omega) (by omega) (by omega) htf) tH_13 (tH_15 hpf) (tH_pw hR (by omega) hsz) (rdR_pw hR).1 (by omega) (by omega)) rfl rfl rfl rfl rfl rfl rfl dX11_town_26 ?_
  refine xr_aload_n X 1 dX11_town_29 rfl rfl ?_
  refine xr_iconst (v := 0) X dX11_town_30 (by decide) ?_
  refine xr_put (fs' := [.ref (e + 1), .ref (e + 13), .ref w, .ref (e + 19), .ref (e + 20), .ref (e + 28), .ref (e + 30), .int 0, .int (st)]) X (fW_X11_52_10 _) (xu_at (by omega) (xu_at (by omega) (xu_at (by omega) (tH_out (by omega) (by omega) (by omega) heo)))) rfl rfl rfl rfl dX11_town_31 ?_
  refine xr_aload_n X 1 dX11_town_34 rfl rfl ?_
  refine xr_get X fF_X11_26_10 (xu_s _ _ _) rfl dX11_town_35 ?_
  refine xr_callV X (xu_at (by omega) (xu_at (xn0 _ rfl) (xu_at (xn0 _ rfl) (xu_s _ _ _)))) rfl kw_543 kw_544 kw_545 cw_X8_size [] (c_X8_size (xu_at (by omega) (xu_at (xn0 _ rfl) (xu_at (xn0 _ rfl) (xu_s _ _ _))))) rfl rfl rfl rfl rfl rfl rfl dX11_town_38 ?_
  exact xr_iret X rfl rfl rfl rfl rfl rfl dX11_town_41
set_option maxRecDepth 100000 in
theorem c_X11_townF {l : Launch} {Ω : xW} {h : xH} {sz : Nat} {e w : Nat} {ac st d9 b9 m9 : Int32} {np : Nat} {pr fa tk fi be : Int32} {bt : Nat → Int32} {t : Nat → Nat} {L N : Nat} {pf pw : Nat → Option Nat} {fr : Nat → Int32} {f9 y9 : Nat} (heo : h e = some (eO e w ac st)) (hw : w = e + 16) (hko : h (e + 13) = some (kO e (nI L) pr fa tk fi be)) (hbt : h (e + 14) = some (.inl (.byte, 300, .inl bt))) (hB : ∀ q, q < L → bt q = sb (t q)) (ht : ∀ q, q < L → t q < 256) (hL : L ≤ 300) (hpf : h (e + 15) = some (pAr pf)) (hto : h w = some (tO w (nI np) d9 b9 m9)) (htp : h (w + 1) = some (.inl (.object "EvePost$Person", 6, .inr (.inr (.inr (.inr pw)))))) (htf : h (w + 2) = some (.inl (.int, 64, .inl fr))) (hsz : e + 49 ≤ sz) (hR : rdR t L 7 0 = (N, some (f9, y9))) (hy : tS t L y9 ≤ 300) : xC l Ω yX11_town cX11_town 2 (some .int) 8 7 21 [.ref e] h sz (some (.int ((-1000100) - nI (tS t L y9)))) (tH e t L fa N h sz pf (nI f9) y9) ((sz + N)) := by
  refine xC_of (lv := [(0, .ref e)]) pn_X11 rfl rfl (fun Γ X hΓ hbs => ?_)
  have X : xX Γ Ω cX11_town 2 RX11 "town" (some .int) 8 280 7 21 := X
  subst hΓ
  refine xr_aload_n X 0 dX11_town_0 rfl rfl ?_
  refine xr_get X fF_X11_19_10 heo rfl dX11_town_1 ?_
  refine xr_callV X hko rfl kw_307 kw_308 kw_309 cw_X7_read [] (c_X7_readF hko hbt hB ht hL hpf (by omega) hR) rfl rfl rfl rfl rfl rfl rfl dX11_town_4 ?_
  refine xr_istore_n (lv' := [(1, .int (nI (tS t L y9))), (0, .ref e)]) X dX11_town_7 rfl rfl rfl ?_
  refine xr_iload_n X 0 dX11_town_8 rfl rfl ?_
  refine xr_iconst (v := (-1)) X dX11_town_9 (by decide) ?_
  refine xr_icmp_eq (tgt := 18) X dX11_town_10 (by decide) (fun c_10 => absurd c_10 (by rw [i32_eq, nI_toInt (by omega), k32_m1]; omega)) (fun _ => ?_)
  refine xr_ldc (v := (-1000100)) X kw_483 dX11_town_13 ?_
  refine xr_iload_n X 0 dX11_town_15 rfl rfl ?_
  refine xr_isub X dX11_town_16 ?_
  exact xr_iret X rfl rfl rfl rfl rfl rfl dX11_town_17
