set_option maxRecDepth 100000 in
theorem s_post {l : Launch} {Ω : xW} {e w m : Nat} {h : xH} {sz : Nat} {s : Int32} (I : INV e w m h sz) (hw : w = e + 16) (hm : m = e + 37) : STEP l Ω e w m yX11_post cX11_post 2 4 yX12_post cX12_post 2 4 0 0 [.int s] h sz := by
  obtain ⟨st, la, pr, tk, fi, be, le, cu, tk2, sa, ti, fm, fl, a, tn, np, day, b, x, kd, wh, mn, lane, many, item, heo, hko, hto, hmo, R, TP, TN, AC, IM, TR, FR, hsz⟩ := id I
  obtain ⟨pf, fr, t4, htp, htf, ht4, T, hP, hE, hF⟩ := id TN
  have h6 : np ≤ 6 := T.1
  have hb : b < 2 ^ np := T.2.2.2.2.2.1
  have hday : day ≤ 9999 := T.2.2.2.1
  have h64 := pw_le h6
  obtain ⟨u, was, ub, hu, hwas, AR⟩ := id AC
  obtain ⟨ha, had, hub⟩ := id AR
  let _i : Decidable (okPost kd wh mn np day b s) := Classical.propDecidable _
  by_cases c1 : okPost kd wh mn np day b s
  · obtain ⟨o1, o2, o3, o4, o5⟩ := id c1
    have es := (i32_tn o2).1
    have ts := (i32_tn o2).2
    have Tn := tOK_day T (d := s.toNatClampNeg) (by omega) o5
    rw [← es] at Tn
    obtain ⟨ubn, ARn⟩ := aR_act AR T
    have C := c_X11_post (l := l) (Ω := Ω) (sz := sz) (s := s) heo hw hu hto htf h6 hF hb ha hday
    have M := c_X12_post (l := l) (Ω := Ω) (sz := sz) (h := (xu (xu (xu h (e + 30) (.inl (.int, 24, .inl (keepU u a (nI b))))) e (.inr (10, [.ref (e + 1), .ref (e + 13), .ref w, .ref (e + 19), .ref (e + 20), .ref (e + 28), .ref (e + 30), .int (nI (keepN a)), .int (st)]))) w (.inr (7, [.ref (w + 1), .int (nI np), .int (nI (day + 1)), .int (s), .ref (w + 2), .int (nI (moM kd np))])))) (s := s) (xu_at (by omega) (xu_at (by omega) (xu_at (by omega) hmo))) (xu_at (by omega) (xu_at (by omega) (xu_at (by omega) ht4))) T (xu_at (by omega) (xu_at (by omega) (xu_at (by omega) hwas))) ha
    simp only [if_pos c1] at C M
    have hwn : (xu (xu (xu (xu (xu (xu h (e + 30) (.inl (.int, 24, .inl (keepU u a (nI b))))) e (.inr (10, [.ref (e + 1), .ref (e + 13), .ref w, .ref (e + 19), .ref (e + 20), .ref (e + 28), .ref (e + 30), .int (nI (keepN a)), .int (st)]))) w (.inr (7, [.ref (w + 1), .int (nI np), .int (nI (day + 1)), .int (s), .ref (w + 2), .int (nI (moM kd np))]))) (m + 6) (.inl (.int, 504, .inl (keepW t4 was a)))) m (.inr (11, [.int 0, .int st, .ref (m + 1), .ref (m + 2), .ref (m + 3), .ref (m + 4), .ref (m + 5), .ref (m + 6), .int (nI (keepN a)), .ref (m + 7), .int (nI tn), .int la, .int le, .int cu, .int tk2, .int sa, .int ti, .int fm, .int fl, .ref (m + 8), .ref (m + 9), .ref (m + 10), .ref (m + 11), .int (nI x.2)]))) (m + 4) (.inl (.int, 21, .inl (dayT t4 s)))) w = some (tO w (nI np) (nI (day + 1)) (nI s.toNatClampNeg) (nI (moM kd np))) := by
      rw [← es]
      exact (xu_at (by omega) (xu_at (by omega) (xu_at (by omega) (xu_s _ _ _))))
    exact ⟨_, _, _, sz, _, _, heo, C, (xu_at (by omega) (xu_at (by omega) (xu_at (by omega) hmo))), M, st, la, pr, tk, fi, be, le, cu, tk2, sa, ti, fm, fl, (keepN a), tn, np, (day + 1), s.toNatClampNeg, x, kd, wh, mn, lane, many, item, (xu_at (by omega) (xu_at (by omega) (xu_at (by omega) (xu_at (by omega) (xu_s _ _ _))))), (xu_at (by omega) (xu_at (by omega) (xu_at (by omega) (xu_at (by omega) (xu_at (xn1 _ rfl) (xu_at (xne _ rfl) hko)))))), hwn, (xu_at (xn0 _ rfl) (xu_s _ _ _)), ((((((R.put (by omega)).put (by omega)).put (by omega)).put (by omega)).put (by omega)).put (by omega)), ((((((TP.put (by omega)).put (by omega)).put (by omega)).put (by omega)).put (by omega)).put (by omega)), ⟨pf, fr, dayT t4 s, (xu_at (by omega) (xu_at (by omega) (xu_at (by omega) (xu_at (xn1 _ rfl) (xu_at (by omega) (xu_at (by omega) htp)))))), (xu_at (by omega) (xu_at (by omega) (xu_at (by omega) (xu_at (xn1 _ rfl) (xu_at (by omega) (xu_at (by omega) htf)))))), (xu_s _ _ _), Tn, ((((((hP.put (by omega)).put (by omega)).put (by omega)).put (by omega)).put (by omega)).put (by omega)), ((((((hE.put (by omega)).put (by omega)).put (by omega)).put (by omega)).put (by omega)).put (by omega)), hF⟩, ⟨_, _, ubn, (xu_at (by omega) (xu_at (by omega) (xu_at (by omega) (xu_at (by omega) (xu_at (xn1 _ rfl) (xu_s _ _ _)))))), (xu_at (xne _ rfl) (xu_at (xn1 _ rfl) (xu_s _ _ _))), ARn⟩, ((((((IM.put (by omega)).put (by omega)).put (by omega)).put (by omega)).put (by omega)).put (by omega)), ((((((TR.put (by omega)).put (by omega)).put (by omega)).put (by omega)).put (by omega)).put (by omega)), ((((((FR.put (by omega)).put (by omega)).put (by omega)).put (by omega)).put (by omega)).put (by omega)), hsz⟩
  · have C := c_X11_post (l := l) (Ω := Ω) (sz := sz) (s := s) heo hw hu hto htf h6 hF hb ha hday
    have M := c_X12_post (l := l) (Ω := Ω) (sz := sz) (s := s) hmo ht4 T hwas ha
    simp only [if_neg c1] at C M
    exact ⟨_, _, _, sz, _, _, heo, C, hmo, M, I⟩
set_option maxRecDepth 100000 in
theorem s_lots {l : Launch} {Ω : xW} {e w m : Nat} {h : xH} {sz : Nat} {s t9 : Int32} (I : INV e w m h sz) (hw : w = e + 16) (hm : m = e + 37) : STEP l Ω e w m yX11_lots cX11_lots 3 4 yX12_lots cX12_lots 7 3 0 0 [.int s, .int t9] h sz := by
  obtain ⟨st, la, pr, tk, fi, be, le, cu, tk2, sa, ti, fm, fl, a, tn, np, day, b, x, kd, wh, mn, lane, many, item, heo, hko, hto, hmo, R, TP, TN, AC, IM, TR, FR, hsz⟩ := id I
  obtain ⟨pf, fr, t4, htp, htf, ht4, T, hP, hE, hF⟩ := id TN
  have h6 : np ≤ 6 := T.1
  have hb : b < 2 ^ np := T.2.2.2.2.2.1
  have hday : day ≤ 9999 := T.2.2.2.1
  have h64 := pw_le h6
  obtain ⟨u, was, ub, hu, hwas, AR⟩ := id AC
  obtain ⟨ha, had, hub⟩ := id AR
  let _i : Decidable (okLots np day s t9) := Classical.propDecidable _
  by_cases c1 : okLots np day s t9
  · obtain ⟨o1, o2, o3, o4, o5, o6⟩ := id c1
    have hlo : lotO kd wh mn np b s t9 < 2 ^ np := lotD_lt (dn_lt _ _ _ _ _ _) (Nat.le_refl _)
    have Tn := tOK_day T hlo o6
    obtain ⟨ubn, ARn⟩ := aR_act AR T
    have C := c_X11_lots (l := l) (Ω := Ω) (sz := sz) (s := s) (t9 := t9) heo hw hu hto htp htf h6 hF hP hb ha hday
    have M := c_X12_lots (l := l) (Ω := Ω) (sz := sz) (h := (xu (xu (xu h (e + 30) (.inl (.int, 24, .inl (keepU u a (nI b))))) e (.inr (10, [.ref (e + 1), .ref (e + 13), .ref w, .ref (e + 19), .ref (e + 20), .ref (e + 28), .ref (e + 30), .int (nI (keepN a)), .int (st)]))) w (.inr (7, [.ref (w + 1), .int (nI np), .int (nI (day + 1)), .int (nI (lotO kd wh mn np b s t9)), .ref (w + 2), .int (nI (moM kd np))])))) (s := s) (e := t9) (xu_at (by omega) (xu_at (by omega) (xu_at (by omega) hmo))) (xu_at (by omega) (xu_at (by omega) (xu_at (by omega) ht4))) T (xu_at (by omega) (xu_at (by omega) (xu_at (by omega) hwas))) ha
    simp only [if_pos c1] at C M
    exact ⟨_, _, _, sz, _, _, heo, C, (xu_at (by omega) (xu_at (by omega) (xu_at (by omega) hmo))), M, st, la, pr, tk, fi, be, le, cu, tk2, sa, ti, fm, fl, (keepN a), tn, np, (day + 1), (lotO kd wh mn np b s t9), x, kd, wh, mn, lane, many, item, (xu_at (by omega) (xu_at (by omega) (xu_at (by omega) (xu_at (by omega) (xu_s _ _ _))))), (xu_at (by omega) (xu_at (by omega) (xu_at (by omega) (xu_at (by omega) (xu_at (xn1 _ rfl) (xu_at (xne _ rfl) hko)))))), (xu_at (by omega) (xu_at (by omega) (xu_at (by omega) (xu_s _ _ _)))), (xu_at (xn0 _ rfl) (xu_s _ _ _)), ((((((R.put (by omega)).put (by omega)).put (by omega)).put (by omega)).put (by omega)).put (by omega)), ((((((TP.put (by omega)).put (by omega)).put (by omega)).put (by omega)).put (by omega)).put (by omega)), ⟨pf, fr, dayT t4 (nI (lotO kd wh mn np b s t9)), (xu_at (by omega) (xu_at (by omega) (xu_at (by omega) (xu_at (xn1 _ rfl) (xu_at (by omega) (xu_at (by omega) htp)))))), (xu_at (by omega) (xu_at (by omega) (xu_at (by omega) (xu_at (xn1 _ rfl) (xu_at (by omega) (xu_at (by omega) htf)))))), (xu_s _ _ _), Tn, ((((((hP.put (by omega)).put (by omega)).put (by omega)).put (by omega)).put (by omega)).put (by omega)), ((((((hE.put (by omega)).put (by omega)).put (by omega)).put (by omega)).put (by omega)).put (by omega)), hF⟩, ⟨_, _, ubn, (xu_at (by omega) (xu_at (by omega) (xu_at (by omega) (xu_at (by omega) (xu_at (xn1 _ rfl) (xu_s _ _ _)))))), (xu_at (xne _ rfl) (xu_at (xn1 _ rfl) (xu_s _ _ _))), ARn⟩, ((((((IM.put (by omega)).put (by omega)).put (by omega)).put (by omega)).put (by omega)).put (by omega)), ((((((TR.put (by omega)).put (by omega)).put (by omega)).put (by omega)).put (by omega)).put (by omega)), ((((((FR.put (by omega)).put (by omega)).put (by omega)).put (by omega)).put (by omega)).put (by omega)), hsz⟩
  · have C := c_X11_lots (l := l) (Ω := Ω) (sz := sz) (s := s) (t9 := t9) heo hw hu hto htp htf h6 hF hP hb ha hday
    have M := c_X12_lots (l := l) (Ω := Ω) (sz := sz) (s := s) (e := t9) hmo ht4 T hwas ha
    simp only [if_neg c1] at C M
    exact ⟨_, _, _, sz, _, _, heo, C, hmo, M, I⟩
set_option maxRecDepth 100000 in
theorem s_undo {l : Launch} {Ω : xW} {e w m : Nat} {h : xH} {sz : Nat}  (I : INV e w m h sz) (hw : w = e + 16) (hm : m = e + 37) : STEP l Ω e w m yX11_undo cX11_undo 1 1 yX12_undo cX12_undo 2 0 0 0 [] h sz := by
  obtain ⟨st, la, pr, tk, fi, be, le, cu, tk2, sa, ti, fm, fl, a, tn, np, day, b, x, kd, wh, mn, lane, many, item, heo, hko, hto, hmo, R, TP, TN, AC, IM, TR, FR, hsz⟩ := id I
  obtain ⟨pf, fr, t4, htp, htf, ht4, T, hP, hE, hF⟩ := id TN
  have h6 : np ≤ 6 := T.1
  have hb : b < 2 ^ np := T.2.2.2.2.2.1
  have hday : day ≤ 9999 := T.2.2.2.1
  have h64 := pw_le h6
  obtain ⟨u, was, ub, hu, hwas, AR⟩ := id AC
  obtain ⟨ha, had, hub⟩ := id AR
  by_cases c1 : a = 0
  · have C := c_X11_undo (l := l) (Ω := Ω) (sz := sz) heo hw hu hto ha
    have M := c_X12_undo (l := l) (Ω := Ω) (sz := sz) hmo ht4 hwas ha
    simp only [if_pos c1] at C M
    exact ⟨_, _, _, sz, _, _, heo, C, hmo, M, I⟩
  · obtain ⟨v1, v2⟩ := hub (a - 1) (by omega)
    have v3 : nI day - 1 = nI (day - 1) := pk_sub (b := 1) (by omega)
    rw [show day - a + (a - 1) = day - 1 by omega] at v2
    have Tn : tOK (va_cpy was t4 (21 * (a - 1)) 0 21) np kd wh mn (day - 1) (ub (a - 1)) := v2.to (fun q hq => by rw [pk_cpy_in (by omega) (by omega), Nat.sub_zero])
    have ARn : aR (a - 1) np (day - 1) kd wh mn u was ub := ⟨by omega, by omega, fun i hi => by rw [show day - 1 - (a - 1) + i = day - a + i by omega]; exact hub i (by omega)⟩
    have C := c_X11_undo (l := l) (Ω := Ω) (sz := sz) heo hw hu hto ha
    have M := c_X12_undo (l := l) (Ω := Ω) (sz := sz) (h := (xu (xu h e (.inr (10, [.ref (e + 1), .ref (e + 13), .ref w, .ref (e + 19), .ref (e + 20), .ref (e + 28), .ref (e + 30), .int (nI (a - 1)), .int (st)]))) w (.inr (7, [.ref (w + 1), .int (nI np), .int (nI (day - 1)), .int (nI (ub (a - 1))), .ref (w + 2), .int (nI (moM kd np))])))) (xu_at (by omega) (xu_at (by omega) hmo)) (xu_at (by omega) (xu_at (by omega) ht4)) (xu_at (by omega) (xu_at (by omega) hwas)) ha
    simp only [if_neg c1] at C M
    rw [v3, v1] at C
    exact ⟨_, _, _, sz, _, _, heo, C, (xu_at (by omega) (xu_at (by omega) hmo)), M, st, la, pr, tk, fi, be, le, cu, tk2, sa, ti, fm, fl, (a - 1), tn, np, (day - 1), (ub (a - 1)), x, kd, wh, mn, lane, many, item, (xu_at (by omega) (xu_at (by omega) (xu_at (by omega) (xu_s _ _ _)))), (xu_at (by omega) (xu_at (by omega) (xu_at (by omega) (xu_at (xn1 _ rfl) hko)))), (xu_at (by omega) (xu_at (by omega) (xu_s _ _ _))), (xu_at (xn0 _ rfl) (xu_s _ _ _)), ((((R.put (by omega)).put (by omega)).put (by omega)).put (by omega)), ((((TP.put (by omega)).put (by omega)).put (by omega)).put (by omega)), ⟨pf, fr, _, (xu_at (by omega) (xu_at (by omega) (xu_at (xn1 _ rfl) (xu_at (by omega) htp)))), (xu_at (by omega) (xu_at (by omega) (xu_at (xn1 _ rfl) (xu_at (by omega) htf)))), (xu_s _ _ _), Tn, ((((hP.put (by omega)).put (by omega)).put (by omega)).put (by omega)), ((((hE.put (by omega)).put (by omega)).put (by omega)).put (by omega)), hF⟩, ⟨u, was, ub, (xu_at (by omega) (xu_at (by omega) (xu_at (by omega) (xu_at (xn1 _ rfl) hu)))), (xu_at (xne _ rfl) (xu_at (xn1 _ rfl) (xu_at (by omega) (xu_at (by omega) hwas)))), ARn⟩, ((((IM.put (by omega)).put (by omega)).put (by omega)).put (by omega)), ((((TR.put (by omega)).put (by omega)).put (by omega)).put (by omega)), ((((FR.put (by omega)).put (by omega)).put (by omega)).put (by omega)), hsz⟩
theorem kst_le (kd wh mn : Nat → Nat) (np b : Nat) (item : Nat → Int32) (F N : Nat) : kst kd wh mn np b item F N ≤ N := by
  unfold kst
  cases e : fstB (brkP kd wh mn np b item F) N with
  | none => exact Nat.le_refl _
  | some k => exact Nat.le_of_lt (fstB_lt e).1
set_option maxRecDepth 100000 in
theorem s_posts {l : Launch} {Ω : xW} {e w m : Nat} {h : xH} {sz : Nat} {r i n : Int32} (I : INV e w m h sz) (hw : w = e + 16) (hm : m = e + 37) : STEP l Ω e w m yX11_posts cX11_posts 6 6 yX12_posts cX12_posts 7 4 0 0 [.int r, .int i, .int n] h sz := by
  obtain ⟨st, la, pr, tk, fi, be, le, cu, tk2, sa, ti, fm, fl, a, tn, np, day, b, x, kd, wh, mn, lane, many, item, heo, hko, hto, hmo, R, TP, TN, AC, IM, TR, FR, hsz⟩ := id I
  obtain ⟨lanes, sizes, it, ho, hout, hin, hlanes, hsizes, hlane, hmany, hitem, RR⟩ := id R
  obtain ⟨hss, hM, hLn, hIt⟩ := id RR
  have hM4 : ∀ q, q < 8 → (many q).toInt ≤ 40 := fun q hq => (hM q hq).2
  have hM0 : ∀ q, q < 8 → 0 ≤ (many q).toInt := fun q hq => (hM q hq).1
  obtain ⟨pf, fr, t4, htp, htf, ht4, T, hP, hE, hF⟩ := id TN
  have h6 : np ≤ 6 := T.1
  have hb : b < 2 ^ np := T.2.2.2.2.2.1
  have hday : day ≤ 9999 := T.2.2.2.1
  have h64 := pw_le h6
  obtain ⟨u, was, ub, hu, hwas, AR⟩ := id AC
  obtain ⟨ha, had, hub⟩ := id AR
  by_cases c0 : 0 < np
  · by_cases c1 : (0 ≤ r.toInt ∧ r.toInt < 8) ∧ 1 ≤ n.toInt ∧ n.toInt ≤ 24
    · by_cases c2 : (lackF lane many r i n).toInt ≤ 0
      · by_cases c3 : allB (setP item (40 * r.toNatClampNeg + i.toNatClampNeg) np) n.toNatClampNeg = true
        · by_cases c4 : 9999 < day + n.toNatClampNeg
          · have C := c_X11_posts (l := l) (Ω := Ω) (sz := sz) (lane := lane) (many := many) (item := item) (r := r) (i := i) (n := n) heo hw hu hto htf h6 hF hb ho hsizes hout hin hss hM hIt ha hday
            have M := c_X12_posts (l := l) (Ω := Ω) (sz := sz) (r := r) (i := i) (n := n) hmo ht4 T hwas hlane hmany hitem ha hM4
            simp only [if_pos c0, if_pos c1, if_pos c2, if_pos c3, if_pos c4] at C M
            exact ⟨_, _, _, sz, _, _, heo, C, hmo, M, I⟩
          · have hkl := kst_le kd wh mn np b item (40 * r.toNatClampNeg + i.toNatClampNeg) n.toNatClampNeg
            have Tn := psS_T (x := (t4, was, a)) T c3 (by omega) hkl
            obtain ⟨e9, ubn, ARn⟩ := aR_ps AR T c3 (by omega) _ hkl
            have C := c_X11_posts (l := l) (Ω := Ω) (sz := sz) (lane := lane) (many := many) (item := item) (r := r) (i := i) (n := n) heo hw hu hto htf h6 hF hb ho hsizes hout hin hss hM hIt ha hday
            have M := c_X12_posts (l := l) (Ω := Ω) (sz := sz) (h := (xu (xu (xu h (e + 30) (.inl (.int, 24, .inl ((uS u a b item (40 * r.toNatClampNeg + i.toNatClampNeg) (kst kd wh mn np b item (40 * r.toNatClampNeg + i.toNatClampNeg) n.toNatClampNeg)).1)))) e (.inr (10, [.ref (e + 1), .ref (e + 13), .ref w, .ref (e + 19), .ref (e + 20), .ref (e + 28), .ref (e + 30), .int (nI (psS (t4, was, a) item (40 * r.toNatClampNeg + i.toNatClampNeg) (kst kd wh mn np b item (40 * r.toNatClampNeg + i.toNatClampNeg) n.toNatClampNeg)).2.2), .int (0)]))) w (.inr (7, [.ref (w + 1), .int (nI np), .int (nI (day + (kst kd wh mn np b item (40 * r.toNatClampNeg + i.toNatClampNeg) n.toNatClampNeg))), .int (nI (befN item (40 * r.toNatClampNeg + i.toNatClampNeg) b (kst kd wh mn np b item (40 * r.toNatClampNeg + i.toNatClampNeg) n.toNatClampNeg))), .ref (w + 2), .int (nI (moM kd np))])))) (r := r) (i := i) (n := n) (xu_at (by omega) (xu_at (by omega) (xu_at (by omega) hmo))) (xu_at (by omega) (xu_at (by omega) (xu_at (by omega) ht4))) T (xu_at (by omega) (xu_at (by omega) (xu_at (by omega) hwas))) (xu_at (by omega) (xu_at (by omega) (xu_at (by omega) hlane))) (xu_at (by omega) (xu_at (by omega) (xu_at (by omega) hmany))) (xu_at (by omega) (xu_at (by omega) (xu_at (by omega) hitem))) ha hM4
            simp only [if_pos c0, if_pos c1, if_pos c2, if_pos c3, if_neg c4] at C M
            rw [e9] at C
            exact ⟨_, _, _, sz, _, _, heo, C, (xu_at (by omega) (xu_at (by omega) (xu_at (by omega) hmo))), M, 0, la, pr, tk, fi, be, le, cu, tk2, sa, ti, fm, fl, ((psS (t4, was, a) item (40 * r.toNatClampNeg + i.toNatClampNeg) (kst kd wh mn np b item (40 * r.toNatClampNeg + i.toNatClampNeg) n.toNatClampNeg)).2.2), tn, np, (day + (kst kd wh mn np b item (40 * r.toNatClampNeg + i.toNatClampNeg) n.toNatClampNeg)), (befN item (40 * r.toNatClampNeg + i.toNatClampNeg) b (kst kd wh mn np b item (40 * r.toNatClampNeg + i.toNatClampNeg) n.toNatClampNeg)), x, kd, wh, mn, lane, many, item, (xu_at (by omega) (xu_at (by omega) (xu_at (by omega) (xu_at (by omega) (xu_s _ _ _))))), (xu_at (by omega) (xu_at (by omega) (xu_at (by omega) (xu_at (by omega) (xu_at (xn1 _ rfl) (xu_at (xne _ rfl) hko)))))), (xu_at (by omega) (xu_at (by omega) (xu_at (by omega) (xu_s _ _ _)))), (xu_at (xn0 _ rfl) (xu_at (xn0 _ rfl) (xu_s _ _ _))), ((((((R.put (by omega)).put (by omega)).put (by omega)).put (by omega)).put (by omega)).put (by omega)), ((((((TP.put (by omega)).put (by omega)).put (by omega)).put (by omega)).put (by omega)).put (by omega)), ⟨pf, fr, _, (xu_at (by omega) (xu_at (by omega) (xu_at (by omega) (xu_at (xn1 _ rfl) (xu_at (by omega) (xu_at (by omega) htp)))))), (xu_at (by omega) (xu_at (by omega) (xu_at (by omega) (xu_at (xn1 _ rfl) (xu_at (by omega) (xu_at (by omega) htf)))))), (xu_s _ _ _), Tn, ((((((hP.put (by omega)).put (by omega)).put (by omega)).put (by omega)).put (by omega)).put (by omega)), ((((((hE.put (by omega)).put (by omega)).put (by omega)).put (by omega)).put (by omega)).put (by omega)), hF⟩, ⟨_, _, ubn, (xu_at (by omega) (xu_at (by omega) (xu_at (by omega) (xu_at (by omega) (xu_at (xn1 _ rfl) (xu_s _ _ _)))))), (xu_at (xne _ rfl) (xu_s _ _ _)), ARn⟩, ((((((IM.put (by omega)).put (by omega)).put (by omega)).put (by omega)).put (by omega)).put (by omega)), ((((((TR.put (by omega)).put (by omega)).put (by omega)).put (by omega)).put (by omega)).put (by omega)), ((((((FR.put (by omega)).put (by omega)).put (by omega)).put (by omega)).put (by omega)).put (by omega)), hsz⟩
        · have C := c_X11_posts (l := l) (Ω := Ω) (sz := sz) (lane := lane) (many := many) (item := item) (r := r) (i := i) (n := n) heo hw hu hto htf h6 hF hb ho hsizes hout hin hss hM hIt ha hday
          have M := c_X12_posts (l := l) (Ω := Ω) (sz := sz) (r := r) (i := i) (n := n) hmo ht4 T hwas hlane hmany hitem ha hM4
          simp only [if_pos c0, if_pos c1, if_pos c2, if_neg c3] at C M
          exact ⟨_, _, _, sz, _, _, heo, C, hmo, M, I⟩
      · have C := c_X11_posts (l := l) (Ω := Ω) (sz := sz) (lane := lane) (many := many) (item := item) (r := r) (i := i) (n := n) heo hw hu hto htf h6 hF hb ho hsizes hout hin hss hM hIt ha hday
        have M := c_X12_posts (l := l) (Ω := Ω) (sz := sz) (h := (xu h e (.inr (10, [.ref (e + 1), .ref (e + 13), .ref w, .ref (e + 19), .ref (e + 20), .ref (e + 28), .ref (e + 30), .int (nI a), .int ((lackF lane many r i n))])))) (r := r) (i := i) (n := n) (xu_at (by omega) hmo) (xu_at (by omega) ht4) T (xu_at (by omega) hwas) (xu_at (by omega) hlane) (xu_at (by omega) hmany) (xu_at (by omega) hitem) ha hM4
        simp only [if_pos c0, if_pos c1, if_neg c2] at C M
        exact ⟨_, _, _, sz, _, _, heo, C, (xu_at (by omega) hmo), M, (lackF lane many r i n), la, pr, tk, fi, be, le, cu, tk2, sa, ti, fm, fl, a, tn, np, day, b, x, kd, wh, mn, lane, many, item, (xu_at (by omega) (xu_s _ _ _)), (xu_at (by omega) (xu_at (xn1 _ rfl) hko)), (xu_at (by omega) (xu_at (by omega) hto)), (xu_s _ _ _), ((R.put (by omega)).put (by omega)), ((TP.put (by omega)).put (by omega)), ((TN.put (by omega)).put (by omega)), ((AC.put (by omega)).put (by omega)), ((IM.put (by omega)).put (by omega)), ((TR.put (by omega)).put (by omega)), ((FR.put (by omega)).put (by omega)), hsz⟩
    · have C := c_X11_posts (l := l) (Ω := Ω) (sz := sz) (lane := lane) (many := many) (item := item) (r := r) (i := i) (n := n) heo hw hu hto htf h6 hF hb ho hsizes hout hin hss hM hIt ha hday
      have M := c_X12_posts (l := l) (Ω := Ω) (sz := sz) (r := r) (i := i) (n := n) hmo ht4 T hwas hlane hmany hitem ha hM4
      simp only [if_pos c0, if_neg c1] at C M
      exact ⟨_, _, _, sz, _, _, heo, C, hmo, M, I⟩
  · have C := c_X11_posts (l := l) (Ω := Ω) (sz := sz) (lane := lane) (many := many) (item := item) (r := r) (i := i) (n := n) heo hw hu hto htf h6 hF hb ho hsizes hout hin hss hM hIt ha hday
    have M := c_X12_posts (l := l) (Ω := Ω) (sz := sz) (r := r) (i := i) (n := n) hmo ht4 T hwas hlane hmany hitem ha hM4
    simp only [if_neg c0] at C M
    exact ⟨_, _, _, sz, _, _, heo, C, hmo, M, I⟩
