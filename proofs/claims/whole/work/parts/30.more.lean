/-- n rows of K zeros behind sz -/
def xmi (h : xH) (sz K : Nat) : Nat → xH
  | 0 => h
  | n + 1 => xu (xmi h sz K n) (sz + 1 + n) (.inl (.int, K, .inl (fun _ => 0)))
def xmo (sz N : Nat) : Nat → Option Nat := fun i => if i < N then some (sz + 1 + i) else none
theorem xR.more {Ω : xW} {U : State} {h : xH} {H : Heap} {a : Nat} {e : xE} (g : xR Ω U h H) (hb : Ω.2.1 ≤ a) (he : xAt Ω.1 U a e H) : xR Ω U (xu h a e) H := g.put hb he (fun _ _ => rfl)
theorem xR.rows {Ω : xW} {U : State} {h : xH} {H : Heap} {sz K : Nat} (g : xR Ω U h H) (hb : Ω.2.1 ≤ sz) : ∀ n : Nat, (∀ j, j < n → xAt Ω.1 U (sz + 1 + j) (.inl (.int, K, .inl (fun _ => 0))) H) → xR Ω U (xmi h sz K n) H
  | 0, _ => g
  | n + 1, hj => (xR.rows g hb n (fun j q => hj j (by omega))).more (by omega) (hj n (by omega))
theorem x_outer (c : ClassId) (N h0 : Nat) : ∀ i : Nat, Jvm.Free.Multi.outerC c N h0 i = arrV c N (fun j => va_rf (if j < i then some (h0 + 1 + j) else none))
  | 0 => by
    show ({ cls := c, slots := Array.replicate N .null, vm := .none } : Cell) = _
    rw [arrV_new]
    exact congrArg (arrV c N) (funext fun j => by simp [va_rf])
  | i + 1 => by
    show (Jvm.Free.Multi.outerC c N h0 i).setSlot i (.ref (h0 + 1 + i)) = _
    rw [x_outer c N h0 i, arrV_store]
    refine congrArg (arrV c N) (funext fun j => ?_)
    by_cases e : j = i
    · subst e; simp [updV, va_rf]
    · by_cases h : j < i
      · simp [updV, e, h, Nat.lt_succ_of_lt h]
      · simp [updV, e, h, show ¬ j < i + 1 by omega]
section XMORE
variable {Γ : xΓ} {Ω : xW} {cc : ByteArray} {nL : Nat} {own nm : String} {ret : Option FieldType} {rf rl rc rs : Nat} {Q : State → Prop} {pc : Nat} {lv : List (Nat × Value)} {st : List Value} {h : xH} {sz k n : Nat}
theorem xr_mna (X : xX Γ Ω cc nL own nm ret rf rl rc rs) {nn kk2 : Int32} {N K index : Nat} {nm2 : String} (hs2 : "[" ++ (FieldType.array .int).toString = nm2) (hcl : Cond.classLink own index nm2 ∈ x_big) (harr : Cond.arrayClass .int ∈ x_big) (hn : nn = nI N) (hk : kk2 = nI K) (hN : Nat.ble N 1000 = true) (hKK : Nat.ble K 1000 = true) (hcells : Nat.ble (k + (1 + N)) rc = true) (hslots : Nat.ble (n + (N + N * K)) rs = true) (d : decode cc pc = .ok (.multianewarray index 2, 4)) (kk : xG Γ Ω nL Q (pc + 4) lv (.ref sz :: st) (xmi (xu h sz (.inl (.array .int, N, .inr (.inr (.inr (.inr (xmo sz N))))))) sz K N) (sz + 1 + N) (k + 1 + N) (n + N + N * K)) : xG Γ Ω nL Q (pc) lv (.int kk2 :: .int nn :: st) h sz k n := by
  obtain ⟨p, l, e, R, s, m, args, below, meth, c⟩ := Γ
  obtain ⟨hx, hb, hml, hown, hts, hK, hO, hV, hbs, hlk, hnm, hrt, hRm⟩ := X
  intro H locs ls hz hR hS hl
  subst hs2
  subst hRm
  subst hz
  subst hn
  subst hk
  have hN' := Nat.le_of_ble_eq_true hN
  have hK' := Nat.le_of_ble_eq_true hKK
  have c1 : (nI N).toNatClampNeg = N := nI_clamp (by omega)
  have c2 : (nI K).toNatClampNeg = K := nI_clamp (by omega)
  intro T hT Xs
  obtain ⟨vm₁, cA, comp, -, fA, fC, hOO, hII, X', step⟩ := Xs.multianewarray2F hx hown (hts _ hcl) (show (Cond.arrayOver (.array .int)).before args s = true from hO.2.2.2.2.2.1) (hts _ harr) (g := F0 m pc ls (.int (nI K) :: .int (nI N) :: st)) rfl (by rw [hb]; exact d) rfl (nI_pos (by omega)) (nI_pos (by omega)) (by rw [c1]; omega) (by rw [c2]; show K * 4 ≤ _; omega) (by rw [c2]; omega) rfl rfl (by rw [c1]; exact Nat.le_of_ble_eq_true hcells) (by rw [c1, c2]; exact Nat.le_of_ble_eq_true hslots)
  rw [c1, c2] at X' step
  generalize hF : Jvm.Free.Multi.fill (T.setVm vm₁) cA comp N K (defaultValue .int) N = F at X' step
  have hTh : (T.setVm vm₁).heap = H := hT
  obtain ⟨f1, f2, -, -⟩ := Jvm.Free.Multi.fill_facts (T.setVm vm₁) cA comp N K (defaultValue .int) N
  rw [hF, hTh] at f1 f2
  have hold : ∀ x : Nat, x < H.size → F.heap[x]? = H[x]? := fun x hx => by
    have := Jvm.Free.Multi.fill_old (T.setVm vm₁) cA comp N K (defaultValue .int) (a := x) (by rw [hTh]; exact hx) N
    rw [hF, hTh] at this
    exact this
  have hzz : Jvm.Free.Multi.innerC comp K (defaultValue .int) = vp_cell comp (K, .inl (fun _ => 0)) := by
    rw [vp_cell_i]
    show ({ cls := comp, slots := Array.replicate K (defaultValue .int), vm := .none } : Cell) = _
    rw [arrV_new]
    rfl
  have hAc : ArrOfT s comp .int := fun N9 z9 => by
    obtain ⟨-, k9, hk9, cm9, hkk9⟩ := (hII 0 (defaultValue .int)).1
    exact ⟨(fun q hq => by cases hq), k9, hk9, cm9, hkk9⟩
  have hAo : ArrOfT s cA (.array .int) := fun N9 z9 => by
    obtain ⟨-, k9, hk9, cm9, hkk9⟩ := (hOO 0 0 0).1
    exact ⟨(fun q hq => by cases hq), k9, hk9, cm9, hkk9⟩
  have hrow : ∀ j : Nat, j < N → xAt Ω.1 s (H.size + 1 + j) (.inl (.int, K, .inl (fun _ => 0))) F.heap := fun j hj => by
    have := Jvm.Free.Multi.fill_inner (T.setVm vm₁) cA comp N K (defaultValue .int) N j hj
    rw [hF, hTh, hzz] at this
    exact ⟨comp, hAc, fC, this⟩
  have hout : xAt Ω.1 s H.size (.inl (.array .int, N, .inr (.inr (.inr (.inr (xmo H.size N)))))) F.heap := by
    refine ⟨cA, hAo, fA, ?_⟩
    rw [f2, x_outer, vp_cell_q]
    rfl
  have hR0 : xR Ω s h F.heap := fun a e q => ⟨(hR a e q).1, (hR a e q).2.kept (hold a (hR.lt q))⟩
  have hbz : Ω.2.1 ≤ H.size := Nat.le_trans hbs hS.1
  have hR1 := (hR0.more hbz hout).rows hbz N hrow
  obtain ⟨t, a1, b1⟩ := kk F.heap locs ls (by rw [f1]) hR1 ⟨by rw [f1]; have := hS.1; omega, fun x h1 h2 => (hold x (Nat.lt_of_lt_of_le h1 hS.1)).trans (hS.2.1 x h1 h2), hS.2.2⟩ hl F rfl X'
  refine ⟨t, step t ?_, b1⟩
  have e : T.heap.size = H.size := by rw [hT]
  rw [e]
  exact a1
theorem xr_acopy (X : xX Γ Ω cc nL own nm ret rf rl rc rs) {a0 a n0 n1 index : Nat} {f g : Nat → Int32}  (hlink : Cond.methodLink own index arraycopyName ∈ x_big) (hnat : Cond.native arraycopyName ∈ x_big) (hstat : Cond.static arraycopyName ∈ x_big) (hini : Cond.initialized "java/lang/System" ∈ x_big) (ha0 : h a0 = some (.inl (.int, n0, .inl f))) (ha : h a = some (.inl (.int, n1, .inl g))) {sp dp cn : Int32} (h1 : 0 ≤ sp.toInt) (h2 : 0 ≤ dp.toInt) (h3 : 0 ≤ cn.toInt) (h4 : sp.toNatClampNeg + cn.toNatClampNeg ≤ n0) (h5 : dp.toNatClampNeg + cn.toNatClampNeg ≤ n1)  (hrf : Nat.ble 1 rf = true) (hrl : Nat.ble 26 rl = true) (hcat : Nat.ble (st.map fun v => v.category).sum 8 = true) (d : decode cc pc = .ok (.invokestatic index, 3)) (kk : xG Γ Ω nL Q (pc + 3) lv (st) (xu h a (.inl (.int, n1, .inl (va_cpy f g sp.toNatClampNeg dp.toNatClampNeg cn.toNatClampNeg)))) sz k n) : xG Γ Ω nL Q (pc) lv (.int cn :: .int dp :: .ref a :: .int sp :: .ref a0 :: st) h sz k n := by
  obtain ⟨p, l, e, R, s, m, args, below, meth, c⟩ := Γ
  obtain ⟨hx, hb, hml, hown, hts, hK, hO, hV, hbs, hlk, hnm, hrt, hRm⟩ := X
  intro H locs ls hz hR hS hl
  subst hRm
  have nng : ∀ z : Int32, 0 ≤ z.toInt → ¬ z < 0 := fun z hz q => by
    have := Int32.lt_iff_toInt_lt.mp q
    rw [show (0 : Int32).toInt = 0 by decide] at this
    omega
  have nn : ∀ z : Int32, 0 ≤ z.toInt → z.toInt = (z.toNatClampNeg : Int) := fun z hz => by
    show z.toInt = ((z.toInt.toNat : Nat) : Int)
    omega
  intro T hT X
  obtain ⟨-, c0, hA0, hB0, hc0⟩ := hR a0 _ ha0
  obtain ⟨hba, c1, hA1, hB1, hc1⟩ := hR a _ ha
  have hc0 : H[a0]? = some (vp_cell c0 (n0, .inl f)) := hc0
  have hc1 : H[a]? = some (vp_cell c1 (n1, .inl g)) := hc1
  obtain ⟨-, k0, hk0, cm0, hkk0⟩ := hA0 n0 (fun j => Value.int (f j))
  obtain ⟨-, k1, hk1, cm1, hkk1⟩ := hA1 n1 (fun j => Value.int (g j))
  obtain ⟨vm', X', step⟩ := X.arraycopy hx hown (hts _ hlink) (hts _ hnat) (hts _ hstat) (hts _ hini) (src := a0) (dst := a) (cs := vp_cell c0 (n0, .inl f)) (cd := vp_cell c1 (n1, .inl g)) (srcPos := sp) (destPos := dp) (n := cn) (by rw [hT]; exact hc0) (by rw [hT]; exact hc1)
    (fun _ h => by cases h) (fun _ h => by cases h) (fun h => by cases h) (fun h => by cases h) hk0 hk1 hkk0 hkk1 rfl (nng sp h1) (nng dp h2) (nng cn h3)
    (by rw [nn sp h1, nn cn h3]; show ¬ _ > ((arrV c0 n0 (fun j => Value.int (f j))).slots.size : Int); rw [arrV_size]; omega)
    (by rw [nn dp h2, nn cn h3]; show ¬ _ > ((arrV c1 n1 (fun j => Value.int (g j))).slots.size : Int); rw [arrV_size]; omega)
    (fun vm₁ hal i hi => by
      have e : (vp_cell c0 (n0, .inl f)).slots.getD (sp.toNatClampNeg + i) .null = Value.int (f (sp.toNatClampNeg + i)) := by
        show (arrV c0 n0 (fun j => Value.int (f j))).slots.getD _ _ = _
        rw [Array.getD_eq_getD_getElem?, arrV_read _ _ (by omega)]
        rfl
      rw [e]
      exact ⟨rfl, trivial⟩)
    (g := F0 m pc ls (.int cn :: .int dp :: .ref a :: .int sp :: .ref a0 :: st)) rfl (by rw [hml]; exact hl.1) (rest := st) rfl (by rw [hb]; exact d) (Nat.le_of_ble_eq_true hrf) (by have q1 := Nat.le_of_ble_eq_true hrl; have q2 := Nat.le_of_ble_eq_true hcat; show 2 * 0 + _ + (7 + 11) ≤ rl; omega)
  have e1 : copied (vp_cell c0 (n0, .inl f)) (vp_cell c1 (n1, .inl g)) sp dp cn = vp_cell c1 (n1, .inl (va_cpy f g sp.toNatClampNeg dp.toNatClampNeg cn.toNatClampNeg)) := by
    rw [vp_cell_i, vp_cell_i, vp_cell_i]
    exact va_copied (fun z => Value.int z) c0 c1 f g h4
  rw [e1] at X' step
  have hlt : a < H.size := (Array.getElem?_eq_some_iff.mp hc1).1
  have hheap : ((T.setVm vm').setCell a (vp_cell c1 (n1, .inl (va_cpy f g sp.toNatClampNeg dp.toNatClampNeg cn.toNatClampNeg)))).heap = H.setIfInBounds a (vp_cell c1 (n1, .inl (va_cpy f g sp.toNatClampNeg dp.toNatClampNeg cn.toNatClampNeg))) := by rw [← hT]; rfl
  have oq : ∀ q : Nat, q ≠ a → (H.setIfInBounds a (vp_cell c1 (n1, .inl (va_cpy f g sp.toNatClampNeg dp.toNatClampNeg cn.toNatClampNeg))))[q]? = H[q]? := fun q hq => by simp [Array.getElem?_setIfInBounds, Ne.symm hq]
  obtain ⟨t, a1, b1⟩ := kk _ _ ls (by rw [← hz]; simp) (hR.put (e := .inl (.int, n1, .inl (va_cpy f g sp.toNatClampNeg dp.toNatClampNeg cn.toNatClampNeg))) hba ⟨c1, hA1, hB1, show (H.setIfInBounds a _)[a]? = some _ by simp [Array.getElem?_setIfInBounds, hlt]⟩ oq) ⟨by simp; exact hS.1, fun q g1 g2 => by
      rw [oq q (fun e => g2 (by rw [e]; exact hba))]
      exact hS.2.1 q g1 g2, fun q hq => by
      rcases List.mem_append.mp hq with h | h
      · exact hS.2.2 q h
      · obtain ⟨z, -, hz⟩ := List.mem_map.mp h
        rw [← hz]
        exact hba⟩ hl _ hheap X'
  exact ⟨t, step t a1, b1⟩
theorem xr_acopyq (X : xX Γ Ω cc nL own nm ret rf rl rc rs) {a0 a n0 n1 index : Nat} {f g : Nat → Option Nat} {C : String} (hlink : Cond.methodLink own index arraycopyName ∈ x_big) (hnat : Cond.native arraycopyName ∈ x_big) (hstat : Cond.static arraycopyName ∈ x_big) (hini : Cond.initialized "java/lang/System" ∈ x_big) (ha0 : h a0 = some (.inl (.object C, n0, .inr (.inr (.inr (.inr f)))))) (ha : h a = some (.inl (.object C, n1, .inr (.inr (.inr (.inr g)))))) {sp dp cn : Int32} (h1 : 0 ≤ sp.toInt) (h2 : 0 ≤ dp.toInt) (h3 : 0 ≤ cn.toInt) (h4 : sp.toNatClampNeg + cn.toNatClampNeg ≤ n0) (h5 : dp.toNatClampNeg + cn.toNatClampNeg ≤ n1) (hel : ∀ i : Nat, i < cn.toNatClampNeg → ∀ y : Nat, f (sp.toNatClampNeg + i) = some y → ∃ (ci : Nat) (fs : List Value) (r : vw_C), h y = some (.inr (ci, fs)) ∧ vwCl[ci]? = some r ∧ (r.1, C) ∈ x_cast) (hrf : Nat.ble 1 rf = true) (hrl : Nat.ble 26 rl = true) (hcat : Nat.ble (st.map fun v => v.category).sum 8 = true) (d : decode cc pc = .ok (.invokestatic index, 3)) (kk : xG Γ Ω nL Q (pc + 3) lv (st) (xu h a (.inl (.object C, n1, .inr (.inr (.inr (.inr (va_cpy f g sp.toNatClampNeg dp.toNatClampNeg cn.toNatClampNeg))))))) sz k n) : xG Γ Ω nL Q (pc) lv (.int cn :: .int dp :: .ref a :: .int sp :: .ref a0 :: st) h sz k n := by
  obtain ⟨p, l, e, R, s, m, args, below, meth, c⟩ := Γ
  obtain ⟨hx, hb, hml, hown, hts, hK, hO, hV, hbs, hlk, hnm, hrt, hRm⟩ := X
  intro H locs ls hz hR hS hl
  subst hRm
  have nng : ∀ z : Int32, 0 ≤ z.toInt → ¬ z < 0 := fun z hz q => by
    have := Int32.lt_iff_toInt_lt.mp q
    rw [show (0 : Int32).toInt = 0 by decide] at this
    omega
  have nn : ∀ z : Int32, 0 ≤ z.toInt → z.toInt = (z.toNatClampNeg : Int) := fun z hz => by
    show z.toInt = ((z.toInt.toNat : Nat) : Int)
    omega
  intro T hT X
  obtain ⟨-, c0, hA0, hB0, hc0⟩ := hR a0 _ ha0
  obtain ⟨hba, c1, hA1, hB1, hc1⟩ := hR a _ ha
  have hc0 : H[a0]? = some (vp_cell c0 (n0, .inr (.inr (.inr (.inr f))))) := hc0
  have hc1 : H[a]? = some (vp_cell c1 (n1, .inr (.inr (.inr (.inr g))))) := hc1
  obtain ⟨-, k0, hk0, cm0, hkk0⟩ := hA0 n0 (fun j => va_rf (f j))
  obtain ⟨-, k1, hk1, cm1, hkk1⟩ := hA1 n1 (fun j => va_rf (g j))
  obtain ⟨vm', X', step⟩ := X.arraycopy hx hown (hts _ hlink) (hts _ hnat) (hts _ hstat) (hts _ hini) (src := a0) (dst := a) (cs := vp_cell c0 (n0, .inr (.inr (.inr (.inr f))))) (cd := vp_cell c1 (n1, .inr (.inr (.inr (.inr g))))) (srcPos := sp) (destPos := dp) (n := cn) (by rw [hT]; exact hc0) (by rw [hT]; exact hc1)
    (fun _ h => by cases h) (fun _ h => by cases h) (fun h => by cases h) (fun h => by cases h) hk0 hk1 hkk0 hkk1 rfl (nng sp h1) (nng dp h2) (nng cn h3)
    (by rw [nn sp h1, nn cn h3]; show ¬ _ > ((arrV c0 n0 (fun j => va_rf (f j))).slots.size : Int); rw [arrV_size]; omega)
    (by rw [nn dp h2, nn cn h3]; show ¬ _ > ((arrV c1 n1 (fun j => va_rf (g j))).slots.size : Int); rw [arrV_size]; omega)
    (fun vm₁ hal i hi => by
      have e : (vp_cell c0 (n0, .inr (.inr (.inr (.inr f))))).slots.getD (sp.toNatClampNeg + i) .null = va_rf (f (sp.toNatClampNeg + i)) := by
        show (arrV c0 n0 (fun j => va_rf (f j))).slots.getD _ _ = _
        rw [Array.getD_eq_getD_getElem?, arrV_read _ _ (by omega)]
        rfl
      rw [e]
      cases hy : f (sp.toNatClampNeg + i) with
      | none => exact ⟨rfl, trivial⟩
      | some y =>
        obtain ⟨ci, fs, r, y1, y2, y3⟩ := hel i hi y hy
        obtain ⟨cellV, g1, g2, g3⟩ := xrecv hK hR y1 y2
        obtain ⟨kA, comp, r1, r2, r3, -⟩ := hB1
        cases hk1.symm.trans r1
        cases hkk1.symm.trans r2
        obtain ⟨kC, hkC, -⟩ := Vm.findClass_spec g3
        obtain ⟨kE, hkE, -⟩ := Vm.findClass_spec r3
        obtain ⟨kC', hkC', -⟩ := hal.2.2 _ _ hkC
        obtain ⟨kE', hkE', -⟩ := hal.2.2 _ _ hkE
        obtain ⟨d0, t0, q1, q2, q3⟩ := Cond.castable_spec (va_Nw.use (A := args) rfl (hO.2.1 _ y3))
        refine ⟨rfl, cellV, (show T.heap[y]? = some cellV by rw [hT]; exact g1), (fun q h => by rw [h] at g2; cases g2), ⟨kC', hkC'⟩, ?_, ?_⟩
        · exact ⟨kE', hkE'⟩
        · show vm₁.assignable _ _ = true
          rw [hal.assignable]
          have w1 : cellV.cls = d0 := Option.some.inj (g3.symm.trans q1)
          have w2 := Option.some.inj (r3.symm.trans q2)
          rw [w1, w2]
          exact q3)
    (g := F0 m pc ls (.int cn :: .int dp :: .ref a :: .int sp :: .ref a0 :: st)) rfl (by rw [hml]; exact hl.1) (rest := st) rfl (by rw [hb]; exact d) (Nat.le_of_ble_eq_true hrf) (by have q1 := Nat.le_of_ble_eq_true hrl; have q2 := Nat.le_of_ble_eq_true hcat; show 2 * 0 + _ + (7 + 11) ≤ rl; omega)
  have e1 : copied (vp_cell c0 (n0, .inr (.inr (.inr (.inr f))))) (vp_cell c1 (n1, .inr (.inr (.inr (.inr g))))) sp dp cn = vp_cell c1 (n1, .inr (.inr (.inr (.inr (va_cpy f g sp.toNatClampNeg dp.toNatClampNeg cn.toNatClampNeg))))) := by
    rw [vp_cell_q, vp_cell_q, vp_cell_q]
    exact va_copied (fun z => va_rf z) c0 c1 f g h4
  rw [e1] at X' step
  have hlt : a < H.size := (Array.getElem?_eq_some_iff.mp hc1).1
  have hheap : ((T.setVm vm').setCell a (vp_cell c1 (n1, .inr (.inr (.inr (.inr (va_cpy f g sp.toNatClampNeg dp.toNatClampNeg cn.toNatClampNeg))))))).heap = H.setIfInBounds a (vp_cell c1 (n1, .inr (.inr (.inr (.inr (va_cpy f g sp.toNatClampNeg dp.toNatClampNeg cn.toNatClampNeg)))))) := by rw [← hT]; rfl
  have oq : ∀ q : Nat, q ≠ a → (H.setIfInBounds a (vp_cell c1 (n1, .inr (.inr (.inr (.inr (va_cpy f g sp.toNatClampNeg dp.toNatClampNeg cn.toNatClampNeg)))))))[q]? = H[q]? := fun q hq => by simp [Array.getElem?_setIfInBounds, Ne.symm hq]
  obtain ⟨t, a1, b1⟩ := kk _ _ ls (by rw [← hz]; simp) (hR.put (e := .inl (.object C, n1, .inr (.inr (.inr (.inr (va_cpy f g sp.toNatClampNeg dp.toNatClampNeg cn.toNatClampNeg)))))) hba ⟨c1, hA1, hB1, show (H.setIfInBounds a _)[a]? = some _ by simp [Array.getElem?_setIfInBounds, hlt]⟩ oq) ⟨by simp; exact hS.1, fun q g1 g2 => by
      rw [oq q (fun e => g2 (by rw [e]; exact hba))]
      exact hS.2.1 q g1 g2, fun q hq => by
      rcases List.mem_append.mp hq with h | h
      · exact hS.2.2 q h
      · obtain ⟨z, -, hz⟩ := List.mem_map.mp h
        rw [← hz]
        exact hba⟩ hl _ hheap X'
  exact ⟨t, step t a1, b1⟩
theorem xr_ldcS (X : xX Γ Ω cc nL own nm ret rf rl rc rs) {i index : Nat} {tx : String} (hown2 : own = "EvePost$Tape") (hi : x_txt[i]? = some (index, tx)) (d : decode cc pc = .ok (.ldc index, 2)) (kk : xG Γ Ω nL Q (pc + 2) lv (.ref (Ω.2.2.1 i) :: st) h sz k n) : xG Γ Ω nL Q (pc) lv (st) h sz k n := by
  obtain ⟨p, l, e, R, s, m, args, below, meth, c⟩ := Γ
  obtain ⟨hx, hb, hml, hown, hts, hK, hO, hV, hbs, hlk, hnm, hrt, hRm⟩ := X
  intro H locs ls hz hR hS hl
  subst hown2
  exact va_ldcS hx hb hown (hO.2.2.2.2.2.2 i _ hi) d (kk H locs ls hz hR hS hl)
theorem xr_kval (X : xX Γ Ω cc nL own nm ret rf rl rc rs) {i index : Nat} (hi : i < 6) (hw : Cond.fieldLink own index "java/lang/String" "value" "[B" ∈ x_big) (d : decode cc pc = .ok (.getfield index, 3)) (kk : xG Γ Ω nL Q (pc + 3) lv (.ref (Ω.2.2.2 i) :: st) h sz k n) : xG Γ Ω nL Q (pc) lv (.ref (Ω.2.2.1 i) :: st) h sz k n := by
  obtain ⟨p, l, e, R, s, m, args, below, meth, c⟩ := Γ
  obtain ⟨hx, hb, hml, hown, hts, hK, hO, hV, hbs, hlk, hnm, hrt, hRm⟩ := X
  intro H locs ls hz hR hS hl
  exact vk_getf hx hb (hV.1.1 i hi).2.2.1 hS hown (hts _ hw) (fun x q => q) d (kk H locs ls hz hR hS hl)
theorem xr_kcod (X : xX Γ Ω cc nL own nm ret rf rl rc rs) {i index : Nat} (hi : i < 6) (hw : Cond.fieldLink own index "java/lang/String" "coder" "B" ∈ x_big) (d : decode cc pc = .ok (.getfield index, 3)) (kk : xG Γ Ω nL Q (pc + 3) lv (.int 0 :: st) h sz k n) : xG Γ Ω nL Q (pc) lv (.ref (Ω.2.2.1 i) :: st) h sz k n := by
  obtain ⟨p, l, e, R, s, m, args, below, meth, c⟩ := Γ
  obtain ⟨hx, hb, hml, hown, hts, hK, hO, hV, hbs, hlk, hnm, hrt, hRm⟩ := X
  intro H locs ls hz hR hS hl
  exact vk_getf hx hb (hV.1.1 i hi).2.1 hS hown (hts _ hw) (fun x q => q) d (kk H locs ls hz hR hS hl)
theorem xr_klen (X : xX Γ Ω cc nL own nm ret rf rl rc rs) {i : Nat} {v : Int32} (hi : i < 6) (hv : nI (x_len.getD i 0) = v) (d : decode cc pc = .ok (.arraylength, 1)) (kk : xG Γ Ω nL Q (pc + 1) lv (.int v :: st) h sz k n) : xG Γ Ω nL Q (pc) lv (.ref (Ω.2.2.2 i) :: st) h sz k n := by
  obtain ⟨p, l, e, R, s, m, args, below, meth, c⟩ := Γ
  obtain ⟨hx, hb, hml, hown, hts, hK, hO, hV, hbs, hlk, hnm, hrt, hRm⟩ := X
  intro H locs ls hz hR hS hl
  exact va_tlen hx hb (hV.1.1 i hi).2.2.2 hS hv d (kk H locs ls hz hR hS hl)
theorem xr_kbyte (X : xX Γ Ω cc nL own nm ret rf rl rc rs) {i j : Nat} {x : Int32} (hi : i < 6) (hx2 : xI x j (x_len.getD i 0)) (d : decode cc pc = .ok (.baload, 1)) (kk : xG Γ Ω nL Q (pc + 1) lv (.int ((x_byt.getD i []).getD j 0) :: st) h sz k n) : xG Γ Ω nL Q (pc) lv (.int x :: .ref (Ω.2.2.2 i) :: st) h sz k n := by
  obtain ⟨p, l, e, R, s, m, args, below, meth, c⟩ := Γ
  obtain ⟨hx, hb, hml, hown, hts, hK, hO, hV, hbs, hlk, hnm, hrt, hRm⟩ := X
  intro H locs ls hz hR hS hl
  obtain rfl := hx2.2.1
  exact va_tb hx hb (hV.1.1 i hi).2.2.2 hS hx2.in rfl d (kk H locs ls hz hR hS hl)
theorem xr_kcs (X : xX Γ Ω cc nL own nm ret rf rl rc rs) {index : Nat} (hw : Cond.fieldLink own index "java/lang/String" "COMPACT_STRINGS" "Z" ∈ x_big) (d : decode cc pc = .ok (.getstatic index, 3)) (kk : xG Γ Ω nL Q (pc + 3) lv (.int 1 :: st) h sz k n) : xG Γ Ω nL Q (pc) lv (st) h sz k n := by
  obtain ⟨p, l, e, R, s, m, args, below, meth, c⟩ := Γ
  obtain ⟨hx, hb, hml, hown, hts, hK, hO, hV, hbs, hlk, hnm, hrt, hRm⟩ := X
  intro H locs ls hz hR hS hl
  exact va_gets hx hb hV.2.1 hS hown (hts _ hw) (fun x q => q) d (kk H locs ls hz hR hS hl)
theorem xr_ksi (X : xX Γ Ω cc nL own nm ret rf rl rc rs) {index : Nat} (hw : Cond.fieldLink own index "jdk/internal/util/Preconditions" "SIOOBE_FORMATTER" "Ljava/util/function/BiFunction;" ∈ x_big) (d : decode cc pc = .ok (.getstatic index, 3)) (kk : xG Γ Ω nL Q (pc + 3) lv (.null :: st) h sz k n) (kk2 : ∀ t : Nat, xG Γ Ω nL Q (pc + 3) lv (.ref t :: st) h sz k n) : xG Γ Ω nL Q (pc) lv (st) h sz k n := by
  obtain ⟨p, l, e, R, s, m, args, below, meth, c⟩ := Γ
  obtain ⟨hx, hb, hml, hown, hts, hK, hO, hV, hbs, hlk, hnm, hrt, hRm⟩ := X
  intro H locs ls hz hR hS hl
  rcases hV.2.2 with q | ⟨t, q⟩
  · exact va_gets hx hb q hS hown (hts _ hw) (fun x q => q) d (kk H locs ls hz hR hS hl)
  · exact va_gets hx hb q hS hown (hts _ hw) (fun x q => q) d (kk2 t H locs ls hz hR hS hl)
theorem xr_min (X : xX Γ Ω cc nL own nm ret rf rl rc rs) {index : Nat} {x y : Int32} (hlink : Cond.methodLink own index Lib.Math.min.name ∈ x_big) (hstat : Cond.static Lib.Math.min.name ∈ x_big) (hini : Cond.initialized "java/lang/Math" ∈ x_big) (hcode : Cond.code Lib.Math.min.name Lib.Math.min.code 2 (some .int) ∈ x_big) (hrf : Nat.ble 1 rf = true) (hrl : Nat.ble 21 rl = true) (hcat : Nat.ble (st.map fun v => v.category).sum 8 = true) (hcells : Nat.ble k rc = true) (hslots : Nat.ble n rs = true) (d : decode cc pc = .ok (.invokestatic index, 3)) (kk : xG Γ Ω nL Q (pc + 3) lv (.int (if y < x then y else x) :: st) h sz k n) : xG Γ Ω nL Q (pc) lv (.int y :: .int x :: st) h sz k n := by
  obtain ⟨p, l, e, R, s, m, args, below, meth, c⟩ := Γ
  obtain ⟨hx, hb, hml, hown, hts, hK, hO, hV, hbs, hlk, hnm, hrt, hRm⟩ := X
  intro H locs ls hz hR hS hl
  subst hRm
  refine va_mmin hx hb (by rw [hml]; exact hl.1.symm) hown (hts _ hlink) (hts _ hstat) (hts _ hini) (hts _ hcode) (Nat.le_of_ble_eq_true hrf) ?_ (Nat.le_of_ble_eq_true hcells) (Nat.le_of_ble_eq_true hslots) d (kk H locs ls hz hR hS hl)
  have q1 := Nat.le_of_ble_eq_true hrl
  have q2 := Nat.le_of_ble_eq_true hcat
  show _ + 13 ≤ rl
  omega
theorem xr_callK (X : xX Γ Ω cc nL own nm ret rf rl rc rs) {y : MethodName} {cc' : ByteArray} {maxL np dd mc ms sz' index : Nat} {ret' : Option FieldType} {r : Option Value} {h' : xH} {rest : List Value} {i : Nat} (hi : i < 6) (hlk1 : Cond.methodLink own index y ∈ x_big) (hlk2 : Cond.instanceMethod y ∈ x_big) (hlk3 : Cond.selects "java/lang/String" y y ∈ x_big) (hw : xCw y cc' maxL ret' np) (As : List Value) (hC : xC Γ.2.1 Ω y cc' maxL ret' dd mc ms (.ref (Ω.2.2.1 i) :: As) h sz r h' sz') (hn : As.length = np) (hst : st = As.reverse ++ .ref (Ω.2.2.1 i) :: rest) (hrf : Nat.ble (dd + 1) rf = true) (hrl : Nat.ble (19 + maxL + 35 * dd) rl = true) (hcat : Nat.ble (rest.map fun v => v.category).sum 8 = true) (hcells : Nat.ble (k + mc) rc = true) (hslots : Nat.ble (n + ms) rs = true) (d : decode cc pc = .ok (.invokevirtual index, 3)) (kk : xG Γ Ω nL Q (pc + 3) lv (r.toList ++ rest) h' sz' (k + mc) (n + ms)) : xG Γ Ω nL Q (pc) lv (st) h sz k n := by
  obtain ⟨p, l, e, R, s, m, args, below, meth, c⟩ := Γ
  obtain ⟨hx, hb, hml, hown, hts, hK, hO, hV, hbs, hlk, hnm, hrt, hRm⟩ := X
  intro H locs ls hz hR hS hl
  subst hRm
  subst hst
  have hroom : (xrm dd mc ms).frames + 1 ≤ rf ∧ 8 + (maxL + 11) + (xrm dd mc ms).locals ≤ rl := ⟨Nat.le_of_ble_eq_true hrf, by have := Nat.le_of_ble_eq_true hrl; show 8 + (maxL + 11) + 35 * dd ≤ rl; omega⟩
  refine xRun (va_runV (As := As) (rest := rest) ⟨hx, hb, hml, hown, hts⟩ hC ⟨callB_of (Ts := x_big) (rm := xrm dd mc ms) np hts (x_bigC hw.1) rfl rfl rfl (hts _ hw.2.1) (hts _ hlk1) ⟨hw.2.2.1, hw.2.2.2.1, hw.2.2.2.2⟩ hroom, hts _ hlk2, hts _ hlk3⟩ ⟨xPre.blind, vk_recv hV.1 hi hS, xPre.at hz hR hS hK hO hV hbs⟩ rfl hn hl.1 rfl (lv_room (Nat.le_of_ble_eq_true hcat)) d ⟨Nat.le_of_ble_eq_true hcells, Nat.le_of_ble_eq_true hslots⟩) hS (fun H1 locs1 e1 e2 e3 => kk H1 locs1 ls e1 e2 e3 hl)

end XMORE
