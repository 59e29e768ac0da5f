set_option maxRecDepth 100000 in
theorem s_row {l : Launch} {Ω : xW} {e w m : Nat} {h : xH} {sz : Nat} {r l2 n : Int32} (I : INV e w m h sz) (hw : w = e + 16) (hm : m = e + 37) : STEP l Ω e w m yX11_row cX11_row 4 2 yX12_row cX12_row 5 2 0 0 [.int r, .int l2, .int n] h sz := by
  obtain ⟨st, la, pr, tk, fi, be, le, cu, tk2, sa, ti, fm, fl, a, tn, np, day, b, x, kd, wh, mn, lane, many, item, heo, hko, hto, hmo, R, TP, TN, AC, IM, TR, FR, hsz⟩ := id I
  obtain ⟨lanes, sizes, it, ho, hout, hin, hlanes, hsizes, hlane, hmany, hitem, RR⟩ := id R
  obtain ⟨hss, hM, hLn, hIt⟩ := id RR
  have hM4 : ∀ q, q < 8 → (many q).toInt ≤ 40 := fun q hq => (hM q hq).2
  have hM0 : ∀ q, q < 8 → 0 ≤ (many q).toInt := fun q hq => (hM q hq).1
  by_cases c1 : 0 ≤ r.toInt ∧ r.toInt < 8 ∧ 0 ≤ l2.toInt ∧ l2.toInt < 3 ∧ n.toInt ≤ 40
  · by_cases c2 : n.toInt < 0
    · have C := c_X11_row (l := l) (Ω := Ω) (sz := sz) (r := r) (l2 := l2) (n := n) heo ho hlanes hsizes hout hin
      have M := c_X12_row (l := l) (Ω := Ω) (sz := sz) (h := (xu h e (.inr (10, [.ref (e + 1), .ref (e + 13), .ref w, .ref (e + 19), .ref (e + 20), .ref (e + 28), .ref (e + 30), .int (nI a), .int (4)])))) (r := r) (l2 := l2) (n := n) (xu_at (by omega) hmo) (xu_at (by omega) hlane) (xu_at (by omega) hmany) (xu_at (by omega) hitem)
      simp only [if_pos c1, if_pos c2] at C M
      exact ⟨_, _, _, sz, _, _, heo, C, (xu_at (by omega) hmo), M, 4, la, pr, tk, fi, be, le, cu, tk2, sa, ti, fm, fl, a, tn, np, day, b, x, kd, wh, mn, lane, many, item, (xu_at (by omega) (xu_s _ _ _)), (xu_at (by omega) (xu_at (xn1 _ rfl) hko)), (xu_at (by omega) (xu_at (by omega) hto)), (xu_s _ _ _), ((R.put (by omega)).put (by omega)), ((TP.put (by omega)).put (by omega)), ((TN.put (by omega)).put (by omega)), ((AC.put (by omega)).put (by omega)), ((IM.put (by omega)).put (by omega)), ((TR.put (by omega)).put (by omega)), ((FR.put (by omega)).put (by omega)), hsz⟩
    · have tnr := (i32_tn (x := r) (by omega)).2
      have C := c_X11_row (l := l) (Ω := Ω) (sz := sz) (r := r) (l2 := l2) (n := n) heo ho hlanes hsizes hout hin
      have M := c_X12_row (l := l) (Ω := Ω) (sz := sz) (h := (xu (xu (xu (xu h (e + 3 + r.toNatClampNeg) (.inl (.int, 40, .inl (ffl (it r.toNatClampNeg) 0 40)))) (e + 11) (.inl (.int, 8, .inl (upd lanes r.toNatClampNeg l2)))) (e + 12) (.inl (.int, 8, .inl (upd sizes r.toNatClampNeg n)))) e (.inr (10, [.ref (e + 1), .ref (e + 13), .ref w, .ref (e + 19), .ref (e + 20), .ref (e + 28), .ref (e + 30), .int (nI a), .int (0)])))) (r := r) (l2 := l2) (n := n) (xu_at (by omega) (xu_at (by omega) (xu_at (by omega) (xu_at (by omega) hmo)))) (xu_at (by omega) (xu_at (by omega) (xu_at (by omega) (xu_at (by omega) hlane)))) (xu_at (by omega) (xu_at (by omega) (xu_at (by omega) (xu_at (by omega) hmany)))) (xu_at (by omega) (xu_at (by omega) (xu_at (by omega) (xu_at (by omega) hitem))))
      simp only [if_pos c1, if_neg c2] at C M
      exact ⟨_, _, _, sz, _, _, heo, C, (xu_at (by omega) (xu_at (by omega) (xu_at (by omega) (xu_at (by omega) hmo)))), M, 0, la, pr, tk, fi, be, le, cu, tk2, sa, ti, fm, fl, a, tn, np, day, b, x, kd, wh, mn, (upd lane r.toNatClampNeg l2), (upd many r.toNatClampNeg n), (zf item (40 * r.toNatClampNeg) 40), (xu_at (by omega) (xu_at (by omega) (xu_at (by omega) (xu_at (by omega) (xu_s _ _ _))))), (xu_at (by omega) (xu_at (by omega) (xu_at (by omega) (xu_at (by omega) (xu_at (xn1 _ rfl) (xu_at (xne _ rfl) (xu_at (xne _ rfl) (xu_at (by omega) hko)))))))), (xu_at (by omega) (xu_at (by omega) (xu_at (by omega) (xu_at (by omega) (xu_at (by omega) (xu_at (by omega) (xu_at (by omega) (xu_at (by omega) hto)))))))), (xu_at (xn0 _ rfl) (xu_at (xn0 _ rfl) (xu_at (xn0 _ rfl) (xu_s _ _ _)))), ⟨upd lanes r.toNatClampNeg l2, upd sizes r.toNatClampNeg n, updr it r.toNatClampNeg (ffl (it r.toNatClampNeg) 0 40), (xu_at (by omega) (xu_at (by omega) (xu_at (by omega) (xu_at (by omega) (xu_at (xn1 _ rfl) (xu_at (xne _ rfl) (xu_at (xne _ rfl) (xu_at (by omega) ho)))))))), (xu_at (by omega) (xu_at (by omega) (xu_at (by omega) (xu_at (by omega) (xu_at (xn1 _ rfl) (xu_at (xne _ rfl) (xu_at (xne _ rfl) (xu_at (by omega) hout)))))))), (fun q9 hq9 => (xu_at (by omega) (xu_at (by omega) (xu_at (by omega) (xu_at (by omega) (xu_at (by omega) (xu_at (by omega) (xu_at (by omega) (rowsC hin q9 hq9))))))))), (xu_at (by omega) (xu_at (by omega) (xu_at (by omega) (xu_at (by omega) (xu_at (xn1 _ rfl) (xu_at (xne _ rfl) (xu_s _ _ _))))))), (xu_at (by omega) (xu_at (by omega) (xu_at (by omega) (xu_at (by omega) (xu_at (xn1 _ rfl) (xu_s _ _ _)))))), (xu_at (xne _ rfl) (xu_at (xne _ rfl) (xu_s _ _ _))), (xu_at (xne _ rfl) (xu_s _ _ _)), (xu_s _ _ _), rR_row RR (by omega) (by omega) (by omega)⟩, ((((((((TP.put (by omega)).put (by omega)).put (by omega)).put (by omega)).put (by omega)).put (by omega)).put (by omega)).put (by omega)), ((((((((TN.put (by omega)).put (by omega)).put (by omega)).put (by omega)).put (by omega)).put (by omega)).put (by omega)).put (by omega)), ((((((((AC.put (by omega)).put (by omega)).put (by omega)).put (by omega)).put (by omega)).put (by omega)).put (by omega)).put (by omega)), ((((((((IM.put (by omega)).put (by omega)).put (by omega)).put (by omega)).put (by omega)).put (by omega)).put (by omega)).put (by omega)), ((((((((TR.put (by omega)).put (by omega)).put (by omega)).put (by omega)).put (by omega)).put (by omega)).put (by omega)).put (by omega)), ((((((((FR.put (by omega)).put (by omega)).put (by omega)).put (by omega)).put (by omega)).put (by omega)).put (by omega)).put (by omega)), hsz⟩
  · have C := c_X11_row (l := l) (Ω := Ω) (sz := sz) (r := r) (l2 := l2) (n := n) heo ho hlanes hsizes hout hin
    have M := c_X12_row (l := l) (Ω := Ω) (sz := sz) (r := r) (l2 := l2) (n := n) hmo hlane hmany hitem
    simp only [if_neg c1] at C M
    exact ⟨_, _, _, sz, _, _, heo, C, hmo, M, I⟩
set_option maxRecDepth 100000 in
theorem s_set {l : Launch} {Ω : xW} {e w m : Nat} {h : xH} {sz : Nat} {r i v : Int32} (I : INV e w m h sz) (hw : w = e + 16) (hm : m = e + 37) : STEP l Ω e w m yX11_set cX11_set 4 4 yX12_set cX12_set 4 2 0 0 [.int r, .int i, .int v] h sz := by
  obtain ⟨st, la, pr, tk, fi, be, le, cu, tk2, sa, ti, fm, fl, a, tn, np, day, b, x, kd, wh, mn, lane, many, item, heo, hko, hto, hmo, R, TP, TN, AC, IM, TR, FR, hsz⟩ := id I
  obtain ⟨lanes, sizes, it, ho, hout, hin, hlanes, hsizes, hlane, hmany, hitem, RR⟩ := id R
  obtain ⟨hss, hM, hLn, hIt⟩ := id RR
  have hM4 : ∀ q, q < 8 → (many q).toInt ≤ 40 := fun q hq => (hM q hq).2
  have hM0 : ∀ q, q < 8 → 0 ≤ (many q).toInt := fun q hq => (hM q hq).1
  by_cases c1 : 0 ≤ r.toInt ∧ r.toInt < 8
  · have tnr := (i32_tn (x := r) (by omega)).2
    have hMr := hM r.toNatClampNeg (by omega)
    by_cases c2 : (lane r.toNatClampNeg).toInt < 0
    · have C := c_X11_set (l := l) (Ω := Ω) (sz := sz) (lane := lane) (many := many) (r := r) (i := i) (v := v) heo ho hsizes hlanes hout hin hss hM hLn
      have M := c_X12_set (l := l) (Ω := Ω) (sz := sz) (h := (xu h e (.inr (10, [.ref (e + 1), .ref (e + 13), .ref w, .ref (e + 19), .ref (e + 20), .ref (e + 28), .ref (e + 30), .int (nI a), .int (1)])))) (r := r) (i := i) (v := v) (xu_at (by omega) hmo) (xu_at (by omega) hlane) (xu_at (by omega) hmany) (xu_at (by omega) hitem) hM4 hM0
      simp only [if_pos c1, if_pos c2] at C M
      exact ⟨_, _, _, sz, _, _, heo, C, (xu_at (by omega) hmo), M, 1, la, pr, tk, fi, be, le, cu, tk2, sa, ti, fm, fl, a, tn, np, day, b, x, kd, wh, mn, lane, many, item, (xu_at (by omega) (xu_s _ _ _)), (xu_at (by omega) (xu_at (xn1 _ rfl) hko)), (xu_at (by omega) (xu_at (by omega) hto)), (xu_s _ _ _), ((R.put (by omega)).put (by omega)), ((TP.put (by omega)).put (by omega)), ((TN.put (by omega)).put (by omega)), ((AC.put (by omega)).put (by omega)), ((IM.put (by omega)).put (by omega)), ((TR.put (by omega)).put (by omega)), ((FR.put (by omega)).put (by omega)), hsz⟩
    · by_cases c3 : 0 ≤ i.toInt ∧ i.toInt < (many r.toNatClampNeg).toInt
      · have tni := (i32_tn (x := i) (by omega)).2
        have C := c_X11_set (l := l) (Ω := Ω) (sz := sz) (lane := lane) (many := many) (r := r) (i := i) (v := v) heo ho hsizes hlanes hout hin hss hM hLn
        have M := c_X12_set (l := l) (Ω := Ω) (sz := sz) (h := (xu (xu h (e + 3 + r.toNatClampNeg) (.inl (.int, 40, .inl (upd (it r.toNatClampNeg) i.toNatClampNeg (nw (lane r.toNatClampNeg) v))))) e (.inr (10, [.ref (e + 1), .ref (e + 13), .ref w, .ref (e + 19), .ref (e + 20), .ref (e + 28), .ref (e + 30), .int (nI a), .int (0)])))) (r := r) (i := i) (v := v) (xu_at (by omega) (xu_at (by omega) hmo)) (xu_at (by omega) (xu_at (by omega) hlane)) (xu_at (by omega) (xu_at (by omega) hmany)) (xu_at (by omega) (xu_at (by omega) hitem)) hM4 hM0
        simp only [if_pos c1, if_neg c2, if_pos c3] at C M
        exact ⟨_, _, _, sz, _, _, heo, C, (xu_at (by omega) (xu_at (by omega) hmo)), M, 0, la, pr, tk, fi, be, le, cu, tk2, sa, ti, fm, fl, a, tn, np, day, b, x, kd, wh, mn, lane, many, (upd item (40 * r.toNatClampNeg + i.toNatClampNeg) (nw (lane r.toNatClampNeg) v)), (xu_at (by omega) (xu_at (by omega) (xu_s _ _ _))), (xu_at (by omega) (xu_at (by omega) (xu_at (xn1 _ rfl) (xu_at (by omega) hko)))), (xu_at (by omega) (xu_at (by omega) (xu_at (by omega) (xu_at (by omega) hto)))), (xu_at (xn0 _ rfl) (xu_s _ _ _)), ⟨lanes, sizes, updr it r.toNatClampNeg (upd (it r.toNatClampNeg) i.toNatClampNeg (nw (lane r.toNatClampNeg) v)), (xu_at (by omega) (xu_at (by omega) (xu_at (xn1 _ rfl) (xu_at (by omega) ho)))), (xu_at (by omega) (xu_at (by omega) (xu_at (xn1 _ rfl) (xu_at (by omega) hout)))), (fun q9 hq9 => (xu_at (by omega) (xu_at (by omega) (xu_at (by omega) (rowsC hin q9 hq9))))), (xu_at (by omega) (xu_at (by omega) (xu_at (xn1 _ rfl) (xu_at (by omega) hlanes)))), (xu_at (by omega) (xu_at (by omega) (xu_at (xn1 _ rfl) (xu_at (by omega) hsizes)))), (xu_at (xne _ rfl) (xu_at (xn1 _ rfl) (xu_at (by omega) (xu_at (by omega) hlane)))), (xu_at (xne _ rfl) (xu_at (xn1 _ rfl) (xu_at (by omega) (xu_at (by omega) hmany)))), (xu_s _ _ _), rR_set RR (by omega)⟩, ((((TP.put (by omega)).put (by omega)).put (by omega)).put (by omega)), ((((TN.put (by omega)).put (by omega)).put (by omega)).put (by omega)), ((((AC.put (by omega)).put (by omega)).put (by omega)).put (by omega)), ((((IM.put (by omega)).put (by omega)).put (by omega)).put (by omega)), ((((TR.put (by omega)).put (by omega)).put (by omega)).put (by omega)), ((((FR.put (by omega)).put (by omega)).put (by omega)).put (by omega)), hsz⟩
      · have C := c_X11_set (l := l) (Ω := Ω) (sz := sz) (lane := lane) (many := many) (r := r) (i := i) (v := v) heo ho hsizes hlanes hout hin hss hM hLn
        have M := c_X12_set (l := l) (Ω := Ω) (sz := sz) (h := (xu h e (.inr (10, [.ref (e + 1), .ref (e + 13), .ref w, .ref (e + 19), .ref (e + 20), .ref (e + 28), .ref (e + 30), .int (nI a), .int (2)])))) (r := r) (i := i) (v := v) (xu_at (by omega) hmo) (xu_at (by omega) hlane) (xu_at (by omega) hmany) (xu_at (by omega) hitem) hM4 hM0
        simp only [if_pos c1, if_neg c2, if_neg c3] at C M
        exact ⟨_, _, _, sz, _, _, heo, C, (xu_at (by omega) hmo), M, 2, la, pr, tk, fi, be, le, cu, tk2, sa, ti, fm, fl, a, tn, np, day, b, x, kd, wh, mn, lane, many, item, (xu_at (by omega) (xu_s _ _ _)), (xu_at (by omega) (xu_at (xn1 _ rfl) hko)), (xu_at (by omega) (xu_at (by omega) hto)), (xu_s _ _ _), ((R.put (by omega)).put (by omega)), ((TP.put (by omega)).put (by omega)), ((TN.put (by omega)).put (by omega)), ((AC.put (by omega)).put (by omega)), ((IM.put (by omega)).put (by omega)), ((TR.put (by omega)).put (by omega)), ((FR.put (by omega)).put (by omega)), hsz⟩
  · have C := c_X11_set (l := l) (Ω := Ω) (sz := sz) (lane := lane) (many := many) (r := r) (i := i) (v := v) heo ho hsizes hlanes hout hin hss hM hLn
    have M := c_X12_set (l := l) (Ω := Ω) (sz := sz) (r := r) (i := i) (v := v) hmo hlane hmany hitem hM4 hM0
    simp only [if_neg c1] at C M
    exact ⟨_, _, _, sz, _, _, heo, C, hmo, M, I⟩
set_option maxRecDepth 100000 in
theorem s_copy {l : Launch} {Ω : xW} {e w m : Nat} {h : xH} {sz : Nat} {a0 i b0 j n : Int32} (I : INV e w m h sz) (hw : w = e + 16) (hm : m = e + 37) : STEP l Ω e w m yX11_copy cX11_copy 6 4 yX12_copy cX12_copy 9 2 0 0 [.int a0, .int i, .int b0, .int j, .int n] h sz := by
  obtain ⟨st, la, pr, tk, fi, be, le, cu, tk2, sa, ti, fm, fl, a, tn, np, day, b, x, kd, wh, mn, lane, many, item, heo, hko, hto, hmo, R, TP, TN, AC, IM, TR, FR, hsz⟩ := id I
  obtain ⟨lanes, sizes, it, ho, hout, hin, hlanes, hsizes, hlane, hmany, hitem, RR⟩ := id R
  obtain ⟨hss, hM, hLn, hIt⟩ := id RR
  have hM4 : ∀ q, q < 8 → (many q).toInt ≤ 40 := fun q hq => (hM q hq).2
  have hM0 : ∀ q, q < 8 → 0 ≤ (many q).toInt := fun q hq => (hM q hq).1
  by_cases c1 : (0 ≤ a0.toInt ∧ a0.toInt < 8) ∧ 0 ≤ b0.toInt ∧ b0.toInt < 8
  · have tna := (i32_tn (x := a0) (by omega)).2
    have tnb := (i32_tn (x := b0) (by omega)).2
    have hMa := hM a0.toNatClampNeg (by omega)
    have hMb := hM b0.toNatClampNeg (by omega)
    by_cases c2 : (lane a0.toNatClampNeg).toInt < 0 ∨ (lane b0.toNatClampNeg).toInt < 0
    · have C := c_X11_copy (l := l) (Ω := Ω) (sz := sz) (lane := lane) (many := many) (a := a0) (i := i) (b := b0) (j := j) (n := n) heo ho hsizes hlanes hout hin hss hM hLn
      have M := c_X12_copy (l := l) (Ω := Ω) (sz := sz) (h := (xu h e (.inr (10, [.ref (e + 1), .ref (e + 13), .ref w, .ref (e + 19), .ref (e + 20), .ref (e + 28), .ref (e + 30), .int (nI a), .int (1)])))) (a := a0) (i := i) (b := b0) (j := j) (n := n) (xu_at (by omega) hmo) (xu_at (by omega) hlane) (xu_at (by omega) hmany) (xu_at (by omega) hitem) hM4
      simp only [if_pos c1, if_pos c2] at C M
      exact ⟨_, _, _, sz, _, _, heo, C, (xu_at (by omega) hmo), M, 1, la, pr, tk, fi, be, le, cu, tk2, sa, ti, fm, fl, a, tn, np, day, b, x, kd, wh, mn, lane, many, item, (xu_at (by omega) (xu_s _ _ _)), (xu_at (by omega) (xu_at (xn1 _ rfl) hko)), (xu_at (by omega) (xu_at (by omega) hto)), (xu_s _ _ _), ((R.put (by omega)).put (by omega)), ((TP.put (by omega)).put (by omega)), ((TN.put (by omega)).put (by omega)), ((AC.put (by omega)).put (by omega)), ((IM.put (by omega)).put (by omega)), ((TR.put (by omega)).put (by omega)), ((FR.put (by omega)).put (by omega)), hsz⟩
    · by_cases c3 : (lane a0.toNatClampNeg).toInt = (lane b0.toNatClampNeg).toInt
      · by_cases c4 : 0 ≤ i.toInt ∧ 0 ≤ j.toInt ∧ 0 ≤ n.toInt ∧ i.toInt + n.toInt ≤ (many a0.toNatClampNeg).toInt ∧ j.toInt + n.toInt ≤ (many b0.toNatClampNeg).toInt
        · have tni := (i32_tn (x := i) (by omega)).2
          have tnj := (i32_tn (x := j) (by omega)).2
          have tnn := (i32_tn (x := n) (by omega)).2
          have C := c_X11_copy (l := l) (Ω := Ω) (sz := sz) (lane := lane) (many := many) (a := a0) (i := i) (b := b0) (j := j) (n := n) heo ho hsizes hlanes hout hin hss hM hLn
          have M := c_X12_copy (l := l) (Ω := Ω) (sz := sz) (h := (xu (xu h (e + 3 + b0.toNatClampNeg) (.inl (.int, 40, .inl (va_cpy (it a0.toNatClampNeg) (it b0.toNatClampNeg) i.toNatClampNeg j.toNatClampNeg n.toNatClampNeg)))) e (.inr (10, [.ref (e + 1), .ref (e + 13), .ref w, .ref (e + 19), .ref (e + 20), .ref (e + 28), .ref (e + 30), .int (nI a), .int (0)])))) (a := a0) (i := i) (b := b0) (j := j) (n := n) (xu_at (by omega) (xu_at (by omega) hmo)) (xu_at (by omega) (xu_at (by omega) hlane)) (xu_at (by omega) (xu_at (by omega) hmany)) (xu_at (by omega) (xu_at (by omega) hitem)) hM4
          simp only [if_pos c1, if_neg c2, if_pos c3, if_pos c4] at C M
          exact ⟨_, _, _, sz, _, _, heo, C, (xu_at (by omega) (xu_at (by omega) hmo)), M, 0, la, pr, tk, fi, be, le, cu, tk2, sa, ti, fm, fl, a, tn, np, day, b, x, kd, wh, mn, lane, many, (va_cpy item item (40 * a0.toNatClampNeg + i.toNatClampNeg) (40 * b0.toNatClampNeg + j.toNatClampNeg) n.toNatClampNeg), (xu_at (by omega) (xu_at (by omega) (xu_s _ _ _))), (xu_at (by omega) (xu_at (by omega) (xu_at (xn1 _ rfl) (xu_at (by omega) hko)))), (xu_at (by omega) (xu_at (by omega) (xu_at (by omega) (xu_at (by omega) hto)))), (xu_at (xn0 _ rfl) (xu_s _ _ _)), ⟨lanes, sizes, updr it b0.toNatClampNeg (va_cpy (it a0.toNatClampNeg) (it b0.toNatClampNeg) i.toNatClampNeg j.toNatClampNeg n.toNatClampNeg), (xu_at (by omega) (xu_at (by omega) (xu_at (xn1 _ rfl) (xu_at (by omega) ho)))), (xu_at (by omega) (xu_at (by omega) (xu_at (xn1 _ rfl) (xu_at (by omega) hout)))), (fun q9 hq9 => (xu_at (by omega) (xu_at (by omega) (xu_at (by omega) (rowsC hin q9 hq9))))), (xu_at (by omega) (xu_at (by omega) (xu_at (xn1 _ rfl) (xu_at (by omega) hlanes)))), (xu_at (by omega) (xu_at (by omega) (xu_at (xn1 _ rfl) (xu_at (by omega) hsizes)))), (xu_at (xne _ rfl) (xu_at (xn1 _ rfl) (xu_at (by omega) (xu_at (by omega) hlane)))), (xu_at (xne _ rfl) (xu_at (xn1 _ rfl) (xu_at (by omega) (xu_at (by omega) hmany)))), (xu_s _ _ _), rR_copy RR (by omega) (by omega) (by omega)⟩, ((((TP.put (by omega)).put (by omega)).put (by omega)).put (by omega)), ((((TN.put (by omega)).put (by omega)).put (by omega)).put (by omega)), ((((AC.put (by omega)).put (by omega)).put (by omega)).put (by omega)), ((((IM.put (by omega)).put (by omega)).put (by omega)).put (by omega)), ((((TR.put (by omega)).put (by omega)).put (by omega)).put (by omega)), ((((FR.put (by omega)).put (by omega)).put (by omega)).put (by omega)), hsz⟩
        · have C := c_X11_copy (l := l) (Ω := Ω) (sz := sz) (lane := lane) (many := many) (a := a0) (i := i) (b := b0) (j := j) (n := n) heo ho hsizes hlanes hout hin hss hM hLn
          have M := c_X12_copy (l := l) (Ω := Ω) (sz := sz) (h := (xu h e (.inr (10, [.ref (e + 1), .ref (e + 13), .ref w, .ref (e + 19), .ref (e + 20), .ref (e + 28), .ref (e + 30), .int (nI a), .int (2)])))) (a := a0) (i := i) (b := b0) (j := j) (n := n) (xu_at (by omega) hmo) (xu_at (by omega) hlane) (xu_at (by omega) hmany) (xu_at (by omega) hitem) hM4
          simp only [if_pos c1, if_neg c2, if_pos c3, if_neg c4] at C M
          exact ⟨_, _, _, sz, _, _, heo, C, (xu_at (by omega) hmo), M, 2, la, pr, tk, fi, be, le, cu, tk2, sa, ti, fm, fl, a, tn, np, day, b, x, kd, wh, mn, lane, many, item, (xu_at (by omega) (xu_s _ _ _)), (xu_at (by omega) (xu_at (xn1 _ rfl) hko)), (xu_at (by omega) (xu_at (by omega) hto)), (xu_s _ _ _), ((R.put (by omega)).put (by omega)), ((TP.put (by omega)).put (by omega)), ((TN.put (by omega)).put (by omega)), ((AC.put (by omega)).put (by omega)), ((IM.put (by omega)).put (by omega)), ((TR.put (by omega)).put (by omega)), ((FR.put (by omega)).put (by omega)), hsz⟩
      · have C := c_X11_copy (l := l) (Ω := Ω) (sz := sz) (lane := lane) (many := many) (a := a0) (i := i) (b := b0) (j := j) (n := n) heo ho hsizes hlanes hout hin hss hM hLn
        have M := c_X12_copy (l := l) (Ω := Ω) (sz := sz) (h := (xu h e (.inr (10, [.ref (e + 1), .ref (e + 13), .ref w, .ref (e + 19), .ref (e + 20), .ref (e + 28), .ref (e + 30), .int (nI a), .int (5)])))) (a := a0) (i := i) (b := b0) (j := j) (n := n) (xu_at (by omega) hmo) (xu_at (by omega) hlane) (xu_at (by omega) hmany) (xu_at (by omega) hitem) hM4
        simp only [if_pos c1, if_neg c2, if_neg c3] at C M
        exact ⟨_, _, _, sz, _, _, heo, C, (xu_at (by omega) hmo), M, 5, la, pr, tk, fi, be, le, cu, tk2, sa, ti, fm, fl, a, tn, np, day, b, x, kd, wh, mn, lane, many, item, (xu_at (by omega) (xu_s _ _ _)), (xu_at (by omega) (xu_at (xn1 _ rfl) hko)), (xu_at (by omega) (xu_at (by omega) hto)), (xu_s _ _ _), ((R.put (by omega)).put (by omega)), ((TP.put (by omega)).put (by omega)), ((TN.put (by omega)).put (by omega)), ((AC.put (by omega)).put (by omega)), ((IM.put (by omega)).put (by omega)), ((TR.put (by omega)).put (by omega)), ((FR.put (by omega)).put (by omega)), hsz⟩
  · have C := c_X11_copy (l := l) (Ω := Ω) (sz := sz) (lane := lane) (many := many) (a := a0) (i := i) (b := b0) (j := j) (n := n) heo ho hsizes hlanes hout hin hss hM hLn
    have M := c_X12_copy (l := l) (Ω := Ω) (sz := sz) (a := a0) (i := i) (b := b0) (j := j) (n := n) hmo hlane hmany hitem hM4
    simp only [if_neg c1] at C M
    exact ⟨_, _, _, sz, _, _, heo, C, hmo, M, I⟩
set_option maxRecDepth 100000 in
theorem s_drop {l : Launch} {Ω : xW} {e w m : Nat} {h : xH} {sz : Nat} {r : Int32} (I : INV e w m h sz) (hw : w = e + 16) (hm : m = e + 37) : STEP l Ω e w m yX11_drop cX11_drop 2 3 yX12_drop cX12_drop 2 2 0 0 [.int r] h sz := by
  obtain ⟨st, la, pr, tk, fi, be, le, cu, tk2, sa, ti, fm, fl, a, tn, np, day, b, x, kd, wh, mn, lane, many, item, heo, hko, hto, hmo, R, TP, TN, AC, IM, TR, FR, hsz⟩ := id I
  obtain ⟨lanes, sizes, it, ho, hout, hin, hlanes, hsizes, hlane, hmany, hitem, RR⟩ := id R
  obtain ⟨hss, hM, hLn, hIt⟩ := id RR
  have hM4 : ∀ q, q < 8 → (many q).toInt ≤ 40 := fun q hq => (hM q hq).2
  have hM0 : ∀ q, q < 8 → 0 ≤ (many q).toInt := fun q hq => (hM q hq).1
  by_cases c1 : 0 ≤ r.toInt ∧ r.toInt < 8
  · by_cases c2 : (lane r.toNatClampNeg).toInt < 0
    · have C := c_X11_drop (l := l) (Ω := Ω) (sz := sz) (lane := lane) (many := many) (r := r) heo ho hsizes hss hM
      have M := c_X12_drop (l := l) (Ω := Ω) (sz := sz) (h := (xu h e (.inr (10, [.ref (e + 1), .ref (e + 13), .ref w, .ref (e + 19), .ref (e + 20), .ref (e + 28), .ref (e + 30), .int (nI a), .int (1)])))) (r := r) (xu_at (by omega) hmo) (xu_at (by omega) hlane) (xu_at (by omega) hmany) (xu_at (by omega) hitem)
      simp only [if_pos c1, if_pos c2] at C M
      exact ⟨_, _, _, sz, _, _, heo, C, (xu_at (by omega) hmo), M, 1, la, pr, tk, fi, be, le, cu, tk2, sa, ti, fm, fl, a, tn, np, day, b, x, kd, wh, mn, lane, many, item, (xu_at (by omega) (xu_s _ _ _)), (xu_at (by omega) (xu_at (xn1 _ rfl) hko)), (xu_at (by omega) (xu_at (by omega) hto)), (xu_s _ _ _), ((R.put (by omega)).put (by omega)), ((TP.put (by omega)).put (by omega)), ((TN.put (by omega)).put (by omega)), ((AC.put (by omega)).put (by omega)), ((IM.put (by omega)).put (by omega)), ((TR.put (by omega)).put (by omega)), ((FR.put (by omega)).put (by omega)), hsz⟩
    · have C := c_X11_drop (l := l) (Ω := Ω) (sz := sz) (lane := lane) (many := many) (r := r) heo ho hsizes hss hM
      have M := c_X12_drop (l := l) (Ω := Ω) (sz := sz) (h := (xu (xu h (e + 12) (.inl (.int, 8, .inl (upd sizes r.toNatClampNeg (-1))))) e (.inr (10, [.ref (e + 1), .ref (e + 13), .ref w, .ref (e + 19), .ref (e + 20), .ref (e + 28), .ref (e + 30), .int (nI a), .int (0)])))) (r := r) (xu_at (by omega) (xu_at (by omega) hmo)) (xu_at (by omega) (xu_at (by omega) hlane)) (xu_at (by omega) (xu_at (by omega) hmany)) (xu_at (by omega) (xu_at (by omega) hitem))
      simp only [if_pos c1, if_neg c2] at C M
      exact ⟨_, _, _, sz, _, _, heo, C, (xu_at (by omega) (xu_at (by omega) hmo)), M, 0, la, pr, tk, fi, be, le, cu, tk2, sa, ti, fm, fl, a, tn, np, day, b, x, kd, wh, mn, (upd lane r.toNatClampNeg (-1)), many, item, (xu_at (by omega) (xu_at (by omega) (xu_s _ _ _))), (xu_at (by omega) (xu_at (by omega) (xu_at (xn1 _ rfl) (xu_at (xne _ rfl) hko)))), (xu_at (by omega) (xu_at (by omega) (xu_at (by omega) (xu_at (by omega) hto)))), (xu_at (xn0 _ rfl) (xu_s _ _ _)), ⟨lanes, upd sizes r.toNatClampNeg (-1), it, (xu_at (by omega) (xu_at (by omega) (xu_at (xn1 _ rfl) (xu_at (xne _ rfl) ho)))), (xu_at (by omega) (xu_at (by omega) (xu_at (xn1 _ rfl) (xu_at (xne _ rfl) hout)))), (fun q9 hq9 => (xu_at (by omega) (xu_at (by omega) (xu_at (by omega) (xu_at (by omega) (hin q9 hq9)))))), (xu_at (by omega) (xu_at (by omega) (xu_at (xn1 _ rfl) (xu_at (xne _ rfl) hlanes)))), (xu_at (by omega) (xu_at (by omega) (xu_at (xn1 _ rfl) (xu_s _ _ _)))), (xu_s _ _ _), (xu_at (xne _ rfl) (xu_at (xn1 _ rfl) (xu_at (by omega) (xu_at (by omega) hmany)))), (xu_at (xne _ rfl) (xu_at (xn1 _ rfl) (xu_at (by omega) (xu_at (by omega) hitem)))), rR_drop RR⟩, ((((TP.put (by omega)).put (by omega)).put (by omega)).put (by omega)), ((((TN.put (by omega)).put (by omega)).put (by omega)).put (by omega)), ((((AC.put (by omega)).put (by omega)).put (by omega)).put (by omega)), ((((IM.put (by omega)).put (by omega)).put (by omega)).put (by omega)), ((((TR.put (by omega)).put (by omega)).put (by omega)).put (by omega)), ((((FR.put (by omega)).put (by omega)).put (by omega)).put (by omega)), hsz⟩
  · have C := c_X11_drop (l := l) (Ω := Ω) (sz := sz) (lane := lane) (many := many) (r := r) heo ho hsizes hss hM
    have M := c_X12_drop (l := l) (Ω := Ω) (sz := sz) (r := r) hmo hlane hmany hitem
    simp only [if_neg c1] at C M
    exact ⟨_, _, _, sz, _, _, heo, C, hmo, M, I⟩
set_option maxRecDepth 100000 in
theorem s_breaks {l : Launch} {Ω : xW} {e w m : Nat} {h : xH} {sz : Nat} {r i n : Int32} (I : INV e w m h sz) (hw : w = e + 16) (hm : m = e + 37) : STEP l Ω e w m yX11_breaks cX11_breaks 8 6 yX12_breaks cX12_breaks 8 4 0 0 [.int r, .int i, .int n] h sz := by
  obtain ⟨st, la, pr, tk, fi, be, le, cu, tk2, sa, ti, fm, fl, a, tn, np, day, b, x, kd, wh, mn, lane, many, item, heo, hko, hto, hmo, R, TP, TN, AC, IM, TR, FR, hsz⟩ := id I
  obtain ⟨lanes, sizes, it, ho, hout, hin, hlanes, hsizes, hlane, hmany, hitem, RR⟩ := id R
  obtain ⟨hss, hM, hLn, hIt⟩ := id RR
  have hM4 : ∀ q, q < 8 → (many q).toInt ≤ 40 := fun q hq => (hM q hq).2
  have hM0 : ∀ q, q < 8 → 0 ≤ (many q).toInt := fun q hq => (hM q hq).1
  obtain ⟨pf, fr, t4, htp, htf, ht4, T, hP, hE, hF⟩ := id TN
  have h6 : np ≤ 6 := T.1
  have hb : b < 2 ^ np := T.2.2.2.2.2.1
  have hday : day ≤ 9999 := T.2.2.2.1
  have h64 := pw_le h6
  by_cases c0 : 0 < np
  · by_cases c1 : (0 ≤ r.toInt ∧ r.toInt < 8) ∧ 0 ≤ n.toInt ∧ n.toInt ≤ 40
    · by_cases c2 : (lackF lane many r i n).toInt ≤ 0
      · by_cases c3 : allB (setP item (40 * r.toNatClampNeg + i.toNatClampNeg) np) n.toNatClampNeg = true
        · have C := c_X11_breaks (l := l) (Ω := Ω) (sz := sz) (lane := lane) (many := many) (item := item) (r := r) (i := i) (n := n) heo hw hto htf h6 hF hb ho hsizes hout hin hss hM hIt
          have M := c_X12_breaks (l := l) (Ω := Ω) (sz := sz) (h := (xu h e (.inr (10, [.ref (e + 1), .ref (e + 13), .ref w, .ref (e + 19), .ref (e + 20), .ref (e + 28), .ref (e + 30), .int (nI a), .int (0)])))) (r := r) (i := i) (n := n) (xu_at (by omega) hmo) (xu_at (by omega) ht4) T (xu_at (by omega) hlane) (xu_at (by omega) hmany) (xu_at (by omega) hitem) hM4
          simp only [if_pos c0, if_pos c1, if_pos c2, if_pos c3] at C M
          exact ⟨_, _, _, sz, _, _, heo, C, (xu_at (by omega) hmo), M, 0, la, pr, tk, fi, be, le, cu, tk2, sa, ti, fm, fl, a, tn, np, day, b, x, kd, wh, mn, lane, many, item, (xu_at (by omega) (xu_s _ _ _)), (xu_at (by omega) (xu_at (xn1 _ rfl) hko)), (xu_at (by omega) (xu_at (by omega) hto)), (xu_s _ _ _), ((R.put (by omega)).put (by omega)), ((TP.put (by omega)).put (by omega)), ((TN.put (by omega)).put (by omega)), ((AC.put (by omega)).put (by omega)), ((IM.put (by omega)).put (by omega)), ((TR.put (by omega)).put (by omega)), ((FR.put (by omega)).put (by omega)), hsz⟩
        · have C := c_X11_breaks (l := l) (Ω := Ω) (sz := sz) (lane := lane) (many := many) (item := item) (r := r) (i := i) (n := n) heo hw hto htf h6 hF hb ho hsizes hout hin hss hM hIt
          have M := c_X12_breaks (l := l) (Ω := Ω) (sz := sz) (r := r) (i := i) (n := n) hmo ht4 T hlane hmany hitem hM4
          simp only [if_pos c0, if_pos c1, if_pos c2, if_neg c3] at C M
          exact ⟨_, _, _, sz, _, _, heo, C, hmo, M, I⟩
      · have C := c_X11_breaks (l := l) (Ω := Ω) (sz := sz) (lane := lane) (many := many) (item := item) (r := r) (i := i) (n := n) heo hw hto htf h6 hF hb ho hsizes hout hin hss hM hIt
        have M := c_X12_breaks (l := l) (Ω := Ω) (sz := sz) (h := (xu h e (.inr (10, [.ref (e + 1), .ref (e + 13), .ref w, .ref (e + 19), .ref (e + 20), .ref (e + 28), .ref (e + 30), .int (nI a), .int ((lackF lane many r i n))])))) (r := r) (i := i) (n := n) (xu_at (by omega) hmo) (xu_at (by omega) ht4) T (xu_at (by omega) hlane) (xu_at (by omega) hmany) (xu_at (by omega) hitem) hM4
        simp only [if_pos c0, if_pos c1, if_neg c2] at C M
        exact ⟨_, _, _, sz, _, _, heo, C, (xu_at (by omega) hmo), M, (lackF lane many r i n), la, pr, tk, fi, be, le, cu, tk2, sa, ti, fm, fl, a, tn, np, day, b, x, kd, wh, mn, lane, many, item, (xu_at (by omega) (xu_s _ _ _)), (xu_at (by omega) (xu_at (xn1 _ rfl) hko)), (xu_at (by omega) (xu_at (by omega) hto)), (xu_s _ _ _), ((R.put (by omega)).put (by omega)), ((TP.put (by omega)).put (by omega)), ((TN.put (by omega)).put (by omega)), ((AC.put (by omega)).put (by omega)), ((IM.put (by omega)).put (by omega)), ((TR.put (by omega)).put (by omega)), ((FR.put (by omega)).put (by omega)), hsz⟩
    · have C := c_X11_breaks (l := l) (Ω := Ω) (sz := sz) (lane := lane) (many := many) (item := item) (r := r) (i := i) (n := n) heo hw hto htf h6 hF hb ho hsizes hout hin hss hM hIt
      have M := c_X12_breaks (l := l) (Ω := Ω) (sz := sz) (r := r) (i := i) (n := n) hmo ht4 T hlane hmany hitem hM4
      simp only [if_pos c0, if_neg c1] at C M
      exact ⟨_, _, _, sz, _, _, heo, C, hmo, M, I⟩
  · have C := c_X11_breaks (l := l) (Ω := Ω) (sz := sz) (lane := lane) (many := many) (item := item) (r := r) (i := i) (n := n) heo hw hto htf h6 hF hb ho hsizes hout hin hss hM hIt
    have M := c_X12_breaks (l := l) (Ω := Ω) (sz := sz) (r := r) (i := i) (n := n) hmo ht4 T hlane hmany hitem hM4
    simp only [if_neg c0] at C M
    exact ⟨_, _, _, sz, _, _, heo, C, hmo, M, I⟩
theorem feed_t {f g : Nat → Int32} {φ : Nat → Int32} {t : Nat → Nat} {v : Int64} {tn N : Nat} (hf : ∀ q, q < tn → f q = φ (t q)) : ∀ q, q < tn + N → va_cpy (fun q => φ (fb v (N - 1 - q))) f 0 tn N q = φ ((fun q => if tn ≤ q then fb v (N - 1 - (q - tn)) else t q) q) := fun q hq => by
  dsimp only
  by_cases c : tn ≤ q
  · rw [if_pos c, pk_cpy_in c hq, Nat.zero_add]
  · rw [if_neg c, pk_cpy_out (by omega)]; exact hf q (by omega)
theorem feed_b {t : Nat → Nat} {v : Int64} {tn N : Nat} (hf : ∀ q, q < tn → t q < 256) : ∀ q, q < tn + N → (fun q => if tn ≤ q then fb v (N - 1 - (q - tn)) else t q) q < 256 := fun q hq => by
  dsimp only
  by_cases c : tn ≤ q
  · rw [if_pos c]; exact fb_lt _ _
  · rw [if_neg c]; exact hf q (by omega)
set_option maxRecDepth 100000 in
theorem s_feed {l : Launch} {Ω : xW} {e w m : Nat} {h : xH} {sz : Nat} {v : Int64} {n : Int32} (I : INV e w m h sz) (hw : w = e + 16) (hm : m = e + 37) : STEP l Ω e w m yX11_feed cX11_feed 4 1 yX12_feed cX12_feed 5 1 0 0 [.long v, .int n] h sz := by
  obtain ⟨st, la, pr, tk, fi, be, le, cu, tk2, sa, ti, fm, fl, a, tn, np, day, b, x, kd, wh, mn, lane, many, item, heo, hko, hto, hmo, R, TP, TN, AC, IM, TR, FR, hsz⟩ := id I
  obtain ⟨bt, tape, t, hbt, htape, hB, hB2, ht, htn⟩ := id TP
  by_cases c1 : 1 ≤ n.toInt ∧ n.toInt ≤ 8
  · by_cases c2 : 300 < tn + n.toNatClampNeg
    · have C := c_X11_feed (l := l) (Ω := Ω) (sz := sz) (v := v) (n := n) heo hko hbt htn
      have M := c_X12_feed (l := l) (Ω := Ω) (sz := sz) (w := v) (n := n) hmo htape htn
      simp only [if_pos c1, if_pos c2] at C M
      exact ⟨_, _, _, sz, _, _, heo, C, hmo, M, I⟩
    · have C := c_X11_feed (l := l) (Ω := Ω) (sz := sz) (v := v) (n := n) heo hko hbt htn
      have M := c_X12_feed (l := l) (Ω := Ω) (sz := sz) (h := (xu (xu h (e + 14) (.inl (.byte, 300, .inl (va_cpy (fun q => sb (fb v (n.toNatClampNeg - 1 - q))) bt 0 tn n.toNatClampNeg)))) (e + 13) (.inr (6, [.ref (e + 14), .int (nI (tn + n.toNatClampNeg)), .ref (e + 15), .int (pr), .int (la), .int (tk), .int (fi), .int (be)])))) (w := v) (n := n) (xu_at (by omega) (xu_at (by omega) hmo)) (xu_at (by omega) (xu_at (by omega) htape)) htn
      simp only [if_pos c1, if_neg c2] at C M
      exact ⟨_, _, _, sz, _, _, heo, C, (xu_at (by omega) (xu_at (by omega) hmo)), M, st, la, pr, tk, fi, be, le, cu, tk2, sa, ti, fm, fl, a, (tn + n.toNatClampNeg), np, day, b, x, kd, wh, mn, lane, many, item, (xu_at (by omega) (xu_at (by omega) (xu_at (xn0 _ rfl) (xu_at (xn0 _ rfl) heo)))), (xu_at (by omega) (xu_at (by omega) (xu_s _ _ _))), (xu_at (by omega) (xu_at (by omega) (xu_at (by omega) (xu_at (by omega) hto)))), (xu_s _ _ _), ((((R.put (by omega)).put (by omega)).put (by omega)).put (by omega)), ⟨_, _, (fun q => if tn ≤ q then fb v (n.toNatClampNeg - 1 - (q - tn)) else t q), (xu_at (by omega) (xu_at (by omega) (xu_at (xne _ rfl) (xu_s _ _ _)))), (xu_at (xn1 _ rfl) (xu_s _ _ _)), feed_t (φ := sb) (f := bt) (g := bt) hB, feed_t (φ := nI) (f := tape) (g := tape) hB2, feed_b ht, by omega⟩, ((((TN.put (by omega)).put (by omega)).put (by omega)).put (by omega)), ((((AC.put (by omega)).put (by omega)).put (by omega)).put (by omega)), ((((IM.put (by omega)).put (by omega)).put (by omega)).put (by omega)), ((((TR.put (by omega)).put (by omega)).put (by omega)).put (by omega)), ((((FR.put (by omega)).put (by omega)).put (by omega)).put (by omega)), hsz⟩
  · have C := c_X11_feed (l := l) (Ω := Ω) (sz := sz) (v := v) (n := n) heo hko hbt htn
    have M := c_X12_feed (l := l) (Ω := Ω) (sz := sz) (w := v) (n := n) hmo htape htn
    simp only [if_neg c1] at C M
    exact ⟨_, _, _, sz, _, _, heo, C, hmo, M, I⟩
