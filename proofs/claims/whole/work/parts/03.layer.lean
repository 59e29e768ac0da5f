/-! THE LAYER: cells by address as a function (xH); xR: the heap holds them; xG: the machine at a program point with locals, stack and cells; xC: a method's contract as a function of its arguments and cells. -/
abbrev xE : Type := (FieldType × vp_A) ⊕ (Nat × List Value)
abbrev xH : Type := Nat → Option xE
/-- the constants of a run: class numbers and slots, the first address that is ours, the addresses of the String constants and of their bytes -/
abbrev xW : Type := va_G × Nat × (Nat → Nat) × (Nat → Nat)
def xu (h : xH) (a : Nat) (e : xE) : xH := fun q => if q = a then some e else h q
theorem xu_s (h : xH) (a : Nat) (e : xE) : xu h a e a = some e := if_pos rfl
theorem xu_n {h : xH} {a q : Nat} {e : xE} (n : q ≠ a) : xu h a e q = h q := if_neg n
theorem xu_at {h : xH} {a q : Nat} {e : xE} {o : Option xE} (n : q ≠ a) (g : h q = o) : xu h a e q = o := (if_neg n).trans g
theorem xu_uu (h : xH) (a : Nat) (e f : xE) : xu (xu h a e) a f = xu h a f := by
  funext q
  unfold xu
  by_cases hq : q = a
  · rw [if_pos hq, if_pos hq]
  · rw [if_neg hq, if_neg hq, if_neg hq]
theorem xu_id {h : xH} {a : Nat} {e : xE} (g : h a = some e) : xu h a e = h := by
  funext q
  unfold xu
  by_cases hq : q = a
  · rw [if_pos hq, hq, g]
  · rw [if_neg hq]
theorem xu_comm (h : xH) {a b : Nat} (n : a ≠ b) (e f : xE) : xu (xu h a e) b f = xu (xu h b f) a e := by
  funext q
  unfold xu
  by_cases hq : q = b
  · by_cases hq2 : q = a
    · exact absurd (hq2.symm.trans hq) n
    · rw [if_pos hq, if_neg hq2, if_pos hq]
  · by_cases hq2 : q = a
    · rw [if_neg hq, if_pos hq2, if_pos hq2]
    · rw [if_neg hq, if_neg hq2, if_neg hq2, if_neg hq]
def xAt (D : va_G) (U : State) (a : Nat) (e : xE) (H : Heap) : Prop := match e with
  | .inl x => ∃ cA : ClassId, ArrOfT U cA x.1 ∧ va_RA U cA x.1 ∧ H[a]? = some (vp_cell cA x.2)
  | .inr o => ∃ r : vw_C, vwCl[o.1]? = some r ∧ t_OB a (D.1 o.1) r.2.2 (D.2 o.1) H (vp_V o.2)
theorem xAt.moved {D : va_G} {u U : State} {a : Nat} {e : xE} {H : Heap} (hvm : u.vm.Alike U.vm) (h : xAt D u a e H) : xAt D U a e H := by
  cases e with
  | inl x =>
    obtain ⟨cA, h1, h2, h3⟩ := h
    exact ⟨cA, arrOfT_moved hvm h1, h2.moved hvm, h3⟩
  | inr o => exact h
theorem xAt.kept {D : va_G} {U : State} {a : Nat} {e : xE} {H H1 : Heap} (h : xAt D U a e H) (hq : H1[a]? = H[a]?) : xAt D U a e H1 := by
  cases e with
  | inl x =>
    obtain ⟨cA, h1, h2, h3⟩ := h
    exact ⟨cA, h1, h2, hq.trans h3⟩
  | inr o =>
    obtain ⟨r, h1, h2⟩ := h
    exact ⟨r, h1, h2.kept hq⟩
theorem xAt.lt {D : va_G} {U : State} {a : Nat} {e : xE} {H : Heap} (h : xAt D U a e H) : a < H.size := by
  cases e with
  | inl x =>
    obtain ⟨cA, h1, h2, h3⟩ := h
    exact (Array.getElem?_eq_some_iff.mp h3).1
  | inr o =>
    obtain ⟨r, h1, cell, h2, -⟩ := h
    exact (Array.getElem?_eq_some_iff.mp h2).1
def xR (Ω : xW) (U : State) (h : xH) (H : Heap) : Prop := ∀ (a : Nat) (e : xE), h a = some e → Ω.2.1 ≤ a ∧ xAt Ω.1 U a e H
theorem xR.moved {Ω : xW} {u U : State} {h : xH} {H : Heap} (hvm : u.vm.Alike U.vm) (g : xR Ω u h H) : xR Ω U h H := fun a e q => ⟨(g a e q).1, (g a e q).2.moved hvm⟩
theorem xR.put {Ω : xW} {U : State} {h : xH} {H H1 : Heap} {a : Nat} {e : xE} (g : xR Ω U h H) (hb : Ω.2.1 ≤ a) (he : xAt Ω.1 U a e H1) (oq : ∀ q : Nat, q ≠ a → H1[q]? = H[q]?) : xR Ω U (xu h a e) H1 := by
  intro q f hq
  by_cases hqa : q = a
  · subst hqa
    rw [xu_s] at hq
    cases hq
    exact ⟨hb, he⟩
  · rw [xu_n hqa] at hq
    exact ⟨(g q f hq).1, (g q f hq).2.kept (oq q hqa)⟩
theorem xR.new {Ω : xW} {U : State} {h : xH} {H H1 : Heap} {e : xE} (g : xR Ω U h H) (hb : Ω.2.1 ≤ H.size) (he : xAt Ω.1 U H.size e H1) (oq : ∀ q : Nat, q < H.size → H1[q]? = H[q]?) : xR Ω U (xu h H.size e) H1 := by
  intro q f hq
  by_cases hqa : q = H.size
  · subst hqa
    rw [xu_s] at hq
    cases hq
    exact ⟨hb, he⟩
  · rw [xu_n hqa] at hq
    exact ⟨(g q f hq).1, (g q f hq).2.kept (oq q ((g q f hq).2.lt))⟩
/-- an address is taken: it lies below the heap's end -/
theorem xR.lt {Ω : xW} {U : State} {h : xH} {H : Heap} (g : xR Ω U h H) {a : Nat} {e : xE} (q : h a = some e) : a < H.size := (g a e q).2.lt
/-- the words, the good ones alone -/
def x_big : List Cond := lw_tbl.filter goodWord
theorem x_bigG : GoodIn x_big x_big := fun _ h => ⟨h, good_of_word (List.mem_filter.mp h).2⟩
theorem x_in {w : Cond} (i : Nat) (h : (lw_tbl[i]? == some w && goodWord w) = true) : w ∈ x_big := by
  simp only [Bool.and_eq_true, beq_iff_eq] at h
  exact List.mem_filter.mpr ⟨List.mem_of_getElem? h.1, h.2⟩
theorem x_bigC {y : MethodName} {cc : ByteArray} {n : Nat} {ret : Option FieldType} (h : Cond.code y cc n ret ∈ x_big) : GoodIn x_big (.code y cc n ret :: x_big) := fun w hw => by
  rcases List.mem_cons.mp hw with e | e
  · rw [e]; exact x_bigG _ h
  · exact x_bigG _ e
theorem xk_oi : Cond.instanceMethod objectInit ∈ x_big := x_in 80 (by decide +kernel)
theorem xk_oc : Cond.code objectInit ⟨#[0xb1]⟩ 1 none ∈ x_big := x_in 81 (by decide +kernel)
/-- the odd words: they hold of a state, and of all later ones -/
def x_nM : List (String × Nat × MethodName × String) := [("EvePost", 18, ⟨"EvePost$Tape", "<init>", "()V"⟩, "EvePost"), ("EvePost", 25, ⟨"EvePost$Town", "<init>", "()V"⟩, "EvePost"), ("EvePost", 36, ⟨"EvePost$Foretold", "<init>", "()V"⟩, "EvePost"), ("EvePost", 43, ⟨"EvePost$Trail", "<init>", "()V"⟩, "EvePost"), ("EvePost$CrossOne", 13, ⟨"EvePost", "holds", "(II)Z"⟩, "EvePost"), ("EvePost$TrueOne", 13, ⟨"EvePost", "holds", "(II)Z"⟩, "EvePost"), ("EvePost$MoodyOne", 13, ⟨"EvePost", "holds", "(II)Z"⟩, "EvePost"), ("EvePost$Town", 86, ⟨"EvePost", "holds", "(II)Z"⟩, "EvePost")]
def x_cast : List (String × String) := [("EvePost$CrossOne", "EvePost$TrueOne"), ("EvePost$LotOne", "EvePost$TrueOne"), ("EvePost$MoodyOne", "EvePost$CrowdOne"), ("EvePost$TrueOne", "EvePost$Person"), ("EvePost$CrossOne", "EvePost$Person"), ("EvePost$LotOne", "EvePost$Person"), ("EvePost$CrowdOne", "EvePost$Person"), ("EvePost$MoodyOne", "EvePost$Person")]
def x_decl : List MethodName := [⟨"EvePost$Person", "doesIt", "(II)Z"⟩, ⟨"EvePost$TrueOne", "doesIt", "(II)Z"⟩, ⟨"EvePost$Person", "ownKind", "()I"⟩]
def x_nc : List (String × String) := [("EvePost$TrueOne", "EvePost$MoodyOne"), ("EvePost$CrossOne", "EvePost$MoodyOne"), ("EvePost$LotOne", "EvePost$MoodyOne"), ("EvePost$CrowdOne", "EvePost$MoodyOne"), ("EvePost$TrueOne", "EvePost$LotOne"), ("EvePost$CrossOne", "EvePost$LotOne"), ("EvePost$CrowdOne", "EvePost$LotOne"), ("EvePost$MoodyOne", "EvePost$LotOne"), ("EvePost$CrowdOne", "EvePost$TrueOne"), ("EvePost$MoodyOne", "EvePost$TrueOne"), ("EvePost$TrueOne", "EvePost$CrossOne"), ("EvePost$LotOne", "EvePost$CrossOne"), ("EvePost$CrowdOne", "EvePost$CrossOne"), ("EvePost$MoodyOne", "EvePost$CrossOne"), ("EvePost$TrueOne", "EvePost$CrowdOne"), ("EvePost$CrossOne", "EvePost$CrowdOne"), ("EvePost$LotOne", "EvePost$CrowdOne")]
def x_ao : List String := ["EvePost$Person", "EvePost$Town"]
def x_txt : List (Nat × String) := [(47, "person"), (71, "true"), (73, "cross"), (75, "lot"), (77, "crowd"), (79, "moody")]
def x_len : List Nat := [6, 4, 5, 3, 5, 5]
def x_byt : List (List Int32) := [[112, 101, 114, 115, 111, 110], [116, 114, 117, 101], [99, 114, 111, 115, 115], [108, 111, 116], [99, 114, 111, 119, 100], [109, 111, 111, 100, 121]]
def xAOA (U : State) : Prop := (Cond.arrayOver (.array .int)).before #[] U = true
def xO (Ω : xW) (U : State) : Prop := (∀ q ∈ x_nM, va_Nw (.methodLinkNest q.1 q.2.1 q.2.2.1 q.2.2.2) U) ∧ (∀ q ∈ x_cast, va_Nw (.castable q.1 q.2) U) ∧ (∀ q ∈ x_decl, va_Nw (.declares q) U) ∧ (∀ q ∈ x_nc, va_Nc q.1 q.2 U) ∧ (∀ C ∈ x_ao, va_AO C U) ∧ xAOA U ∧ (∀ (i : Nat) (q : Nat × String), x_txt[i]? = some q → vk_R "EvePost$Tape" q.1 q.2 (Ω.2.2.1 i) U)
/-- what lies below our own cells, and stays -/
def xV (Ω : xW) (U : State) (H : Heap) : Prop := vk_S 6 x_len x_byt Ω.2.2.1 Ω.2.2.2 (fun q => Ω.2.1 ≤ q) U H ∧ va_Z "java/lang/String" "COMPACT_STRINGS" "Z" (.int 1) (fun q => Ω.2.1 ≤ q) U H ∧ va_Zq "jdk/internal/util/Preconditions" "SIOOBE_FORMATTER" "Ljava/util/function/BiFunction;" (fun q => Ω.2.1 ≤ q) U H
theorem xV.moved {Ω : xW} {u U : State} {H : Heap} (hvm : u.vm.Alike U.vm) (h : xV Ω u H) : xV Ω U H := ⟨vk_S.moved hvm h.1, va_Z.moved hvm h.2.1, va_Zq.moved hvm h.2.2⟩
theorem xV.kept {Ω : xW} {U : State} {H H1 : Heap} (h : xV Ω U H) (hq : ∀ a : Nat, a < H.size → ¬ Ω.2.1 ≤ a → H1[a]? = H[a]?) : xV Ω U H1 := ⟨h.1.kept hq, h.2.1.kept hq, h.2.2.kept hq⟩
theorem xAOA.moved {u U : State} (hvm : u.vm.Alike U.vm) (h : xAOA u) : xAOA U := by
  unfold xAOA Cond.before Cond.holds at h ⊢
  simp only [Cond.value] at h ⊢
  cases h1 : u.vm.findClass (FieldType.array .int).toString with
  | none => rw [h1] at h; simp at h
  | some comp =>
    rw [h1, Option.bind_some] at h
    cases h2 : (u.vm.classes.findIdx? fun (x : Class) => match x.kind with | .array component _ => component == comp | _ => false) with
    | none =>
      have e := congrArg (fun o : Option Nat => (o.bind (fun c => (u.vm.classes[c]?).map fun (k : Class) => match k.kind with | .array _ ty => decide (ty = FieldType.array .int) && decide (u.vm.findClass ("[" ++ (FieldType.array .int).toString) = some c) | _ => false) == some true)) h2
      have h9 := e.symm.trans h
      simp at h9
    | some c =>
      have e := congrArg (fun o : Option Nat => (o.bind (fun c => (u.vm.classes[c]?).map fun (k : Class) => match k.kind with | .array _ ty => decide (ty = FieldType.array .int) && decide (u.vm.findClass ("[" ++ (FieldType.array .int).toString) = some c) | _ => false) == some true)) h2
      have h := e.symm.trans h
      cases h3 : u.vm.classes[c]? with
      | none => simp [h3] at h
      | some k =>
        obtain ⟨k', hk', he⟩ := hvm.2.2 _ _ h3
        have hi : (U.vm.classes.findIdx? fun (x : Class) => match x.kind with | .array component _ => component == comp | _ => false) = some c := by
          refine (va_idx_bare U.vm comp).symm.trans ?_
          first | rw [hvm.bare_eq] | rw [← hvm.bare_eq]
          exact (va_idx_bare u.vm comp).trans h2
        have f1 : U.vm.findClass (FieldType.array .int).toString = some comp := by rw [hvm.findClass]; exact h1
        have hkind : k'.kind = k.kind := by rw [he]
        rw [f1, Option.bind_some]
        refine (congrArg (fun o : Option Nat => (o.bind (fun c => (U.vm.classes[c]?).map fun (k : Class) => match k.kind with | .array _ ty => decide (ty = FieldType.array .int) && decide (U.vm.findClass ("[" ++ (FieldType.array .int).toString) = some c) | _ => false) == some true)) hi).trans ?_
        rw [hvm.findClass]
        simp only [h3, Option.bind_some, Option.map_some] at h
        simp only [hk', Option.bind_some, Option.map_some, hkind]
        exact h
theorem xO.warm {Ω : xW} {s U : State} (hW : s.WarmedH U.vm) (h : xO Ω s) : xO Ω U :=
  ⟨fun q hq => va_Nw.warmM hW (h.1 q hq), fun q hq => va_Nw.warmC hW (h.2.1 q hq), fun q hq => va_Nw.warmD hW (h.2.2.1 q hq), fun q hq => va_Nc.moved hW.alike (h.2.2.2.1 q hq), fun C hC => va_AO.moved hW.alike (h.2.2.2.2.1 C hC), xAOA.moved hW.alike h.2.2.2.2.2.1, fun i q hq => vk_R.warm hW (h.2.2.2.2.2.2 i q hq)⟩
theorem xO.same {Ω : xW} {u U : State} (hv : u.vm = U.vm) (h : xO Ω u) : xO Ω U :=
  ⟨fun q hq => va_Nw.same rfl hv (h.1 q hq), fun q hq => va_Nw.same rfl hv (h.2.1 q hq), fun q hq => va_Nw.same rfl hv (h.2.2.1 q hq), fun q hq => va_Nc.moved (hv ▸ Vm.Alike.refl u.vm) (h.2.2.2.1 q hq), fun C hC => va_AO.moved (hv ▸ Vm.Alike.refl u.vm) (h.2.2.2.2.1 C hC), xAOA.moved (hv ▸ Vm.Alike.refl u.vm) h.2.2.2.2.2.1, fun i q hq => vk_R.same hv.symm (h.2.2.2.2.2.2 i q hq)⟩
/-- the machine's side of a walk -/
abbrev xΓ : Type := Program × Launch × Env × Room × State × MethodId × Array Value × List Frame × Method × Code
def xX (Γ : xΓ) (Ω : xW) (cc : ByteArray) (nL : Nat) (own nm : String) (ret : Option FieldType) (rf rl rc rs : Nat) : Prop := match Γ with
  | (p, _, _, R, s, m, args, _, meth, c) => p.tables.exec = Jvm.exec ∧ c.code = cc ∧ c.maxLocals = nL ∧ s.vm.findClass own = some m.cls ∧ (∀ w ∈ x_big, w.before args s = true) ∧ va_K Ω.1 vwCl [] s ∧ xO Ω s ∧ xV Ω s s.heap ∧ Ω.2.1 ≤ s.heap.size ∧ meth.locks = false ∧ meth.name = nm ∧ meth.sig.returnType = ret ∧ R = ({ frames := rf, cells := rc, slots := rs, locals := rl } : Room)
def xG (Γ : xΓ) (Ω : xW) (nL : Nat) (Q : State → Prop) (pc : Nat) (lv : List (Nat × Value)) (st : List Value) (h : xH) (sz k n : Nat) : Prop := match Γ with
  | (p, l, e, R, s, m, args, below, meth, c) => ∀ (H : Heap) (locs : List Loc) (ls : Array Slot), H.size = sz → xR Ω s h H → va_S (fun q => Ω.2.1 ≤ q) s.heap H locs → lv_has ls nL lv → W p l e R s m args below meth c H locs k n Q (F0 m pc ls st)
def xPre (Ω : xW) (av : List Value) (h : xH) (sz : Nat) : Array Value → State → Prop := va_Pc av (fun U => U.heap.size = sz ∧ Ω.2.1 ≤ sz ∧ xR Ω U h U.heap ∧ va_K Ω.1 vwCl [] U ∧ xO Ω U ∧ xV Ω U U.heap)
def xPost (Ω : xW) (r : Option Value) (h : xH) (sz : Nat) : Array Value → State → Outcome → State → Prop := fun _ st oc t => oc = .returned r ∧ t.heap.size = sz ∧ xR Ω t h t.heap ∧ va_F (fun q => Ω.2.1 ≤ q) st t
abbrev xrm (d mc ms : Nat) : Room := { frames := d, cells := mc, slots := ms, locals := 35 * d }
/-- a method's contract: from these arguments, cells and heap size it answers r, and leaves the cells h', the size sz' -/
def xC (l : Launch) (Ω : xW) (y : MethodName) (cc : ByteArray) (maxL : Nat) (ret : Option FieldType) (d mc ms : Nat) (av : List Value) (h : xH) (sz : Nat) (r : Option Value) (h' : xH) (sz' : Nat) : Prop :=
  Met l y (.code y cc maxL ret :: x_big) (xrm d mc ms) (xPre Ω av h sz) (xPost Ω r h' sz') mc ms (fun q => Ω.2.1 ≤ q)
def xQ (Γ : xΓ) (Ω : xW) (r : Option Value) (h' : xH) (sz' mc ms : Nat) : State → Prop := match Γ with
  | (_, _, _, _, s, _, args, below, _, _) => MQ below (xPost Ω r h' sz') args s mc ms (fun q => Ω.2.1 ≤ q)
theorem xC_of {l : Launch} {Ω : xW} {y : MethodName} {cc : ByteArray} {maxL : Nat} {ret : Option FieldType} {d mc ms : Nat} {av : List Value} {h : xH} {sz : Nat} {r : Option Value} {h' : xH} {sz' : Nat} (hy : plainName y.cls = true) (hav : Nat.ble (lg_sl av).length maxL = true) {lv : List (Nat × Value)} (hlv : lv_args 0 av = lv)
    (body : ∀ Γ : xΓ, xX Γ Ω cc maxL y.cls y.name ret d (35 * d) mc ms → Γ.2.1 = l → Ω.2.1 ≤ sz → xG Γ Ω maxL (xQ Γ Ω r h' sz' mc ms) 0 lv [] h sz 0 0) : xC l Ω y cc maxL ret d mc ms av h sz r h' sz' := by
  refine Met.ofW (cc := cc) (maxL := maxL) (ret := ret) hy rfl ?_
  intro p e s m args below meth c s₁ B hml hv
  obtain ⟨rfl, hsz, hbs, hR, hK, hO, hV⟩ := hv
  have hts := atoms_spec (ws := .code y cc maxL ret :: x_big) B.pre
  have hown : s.vm.findClass y.cls = some m.cls := findClass_of_methodNamed B.named
  have hnm : meth.name = y.name := (name_of_methodNamed B.named B.method).1
  have hl := lv_entry av (n := maxL) (Nat.le_of_ble_eq_true hav)
  rw [lg_entry_eq]
  rw [hlv] at hl
  have X : xX (p, l, e, (headSpec (.code y cc maxL ret :: x_big) (xrm d mc ms)).room, s, m, av.toArray, below, meth, c) Ω cc maxL y.cls y.name ret d (35 * d) mc ms :=
    ⟨B.exec, B.bytes, hml, hown, fun w hw => hts w (List.mem_cons_of_mem _ hw), hK, hO, hV, by rw [hsz]; exact hbs, B.notSynchronized, hnm, B.returns, rfl⟩
  exact body _ X rfl hbs s.heap [] _ hsz hR va_S.rf hl
section XROWS
variable {Γ : xΓ} {Ω : xW} {cc : ByteArray} {nL : Nat} {own nm : String} {ret : Option FieldType} {rf rl rc rs : Nat} {Q : State → Prop} {pc : Nat} {lv : List (Nat × Value)} {st : List Value} {h : xH} {sz k n : Nat}
theorem xr_iconst (X : xX Γ Ω cc nL own nm ret rf rl rc rs) {i : Int} {v : Int32} (d : decode cc pc = .ok (.iconst i, 1)) (hv : Int32.ofInt i = v) (kk : xG Γ Ω nL Q (pc + 1) lv (.int v :: st) h sz k n) : xG Γ Ω nL Q (pc) lv (st) h sz k n := by
  obtain ⟨p, l, e, R, s, m, args, below, meth, c⟩ := Γ
  obtain ⟨hx, hb, hml, hown, hts, hK, hO, hV, hbs, hlk, hnm, hrt, hRm⟩ := X
  intro H locs ls hz hR hS hl
  exact lv_iconst hx hb d hv (kk H locs ls hz hR hS hl)
theorem xr_bipush (X : xX Γ Ω cc nL own nm ret rf rl rc rs) {i : Int} {v : Int32} (d : decode cc pc = .ok (.bipush i, 2)) (hv : (Int8.ofInt i).toInt32 = v) (kk : xG Γ Ω nL Q (pc + 2) lv (.int v :: st) h sz k n) : xG Γ Ω nL Q (pc) lv (st) h sz k n := by
  obtain ⟨p, l, e, R, s, m, args, below, meth, c⟩ := Γ
  obtain ⟨hx, hb, hml, hown, hts, hK, hO, hV, hbs, hlk, hnm, hrt, hRm⟩ := X
  intro H locs ls hz hR hS hl
  exact lv_bipush hx hb d hv (kk H locs ls hz hR hS hl)
theorem xr_sipush (X : xX Γ Ω cc nL own nm ret rf rl rc rs) {i : Int} {v : Int32} (d : decode cc pc = .ok (.sipush i, 3)) (hv : (Int16.ofInt i).toInt32 = v) (kk : xG Γ Ω nL Q (pc + 3) lv (.int v :: st) h sz k n) : xG Γ Ω nL Q (pc) lv (st) h sz k n := by
  obtain ⟨p, l, e, R, s, m, args, below, meth, c⟩ := Γ
  obtain ⟨hx, hb, hml, hown, hts, hK, hO, hV, hbs, hlk, hnm, hrt, hRm⟩ := X
  intro H locs ls hz hR hS hl
  exact lv_sipush hx hb d hv (kk H locs ls hz hR hS hl)
theorem xr_lconst (X : xX Γ Ω cc nL own nm ret rf rl rc rs) {i : Fin 2} {v : Int64} (d : decode cc pc = .ok (.lconst i, 1)) (hv : Int64.ofNat (i : Nat) = v) (kk : xG Γ Ω nL Q (pc + 1) lv (.long v :: st) h sz k n) : xG Γ Ω nL Q (pc) lv (st) h sz k n := by
  obtain ⟨p, l, e, R, s, m, args, below, meth, c⟩ := Γ
  obtain ⟨hx, hb, hml, hown, hts, hK, hO, hV, hbs, hlk, hnm, hrt, hRm⟩ := X
  intro H locs ls hz hR hS hl
  exact lv_lconst hx hb d hv (kk H locs ls hz hR hS hl)
theorem xr_ldc (X : xX Γ Ω cc nL own nm ret rf rl rc rs) {i : Nat} {v : Int32} (hw : Cond.constant own i v ∈ x_big) (d : decode cc pc = .ok (.ldc i, 2)) (kk : xG Γ Ω nL Q (pc + 2) lv (.int v :: st) h sz k n) : xG Γ Ω nL Q (pc) lv (st) h sz k n := by
  obtain ⟨p, l, e, R, s, m, args, below, meth, c⟩ := Γ
  obtain ⟨hx, hb, hml, hown, hts, hK, hO, hV, hbs, hlk, hnm, hrt, hRm⟩ := X
  intro H locs ls hz hR hS hl
  exact lv_ldc hx hb hown (hts _ hw) d (kk H locs ls hz hR hS hl)
theorem xr_ldcw (X : xX Γ Ω cc nL own nm ret rf rl rc rs) {i : Nat} {v : Int32} (hw : Cond.constant own i v ∈ x_big) (d : decode cc pc = .ok (.ldc_w i, 3)) (kk : xG Γ Ω nL Q (pc + 3) lv (.int v :: st) h sz k n) : xG Γ Ω nL Q (pc) lv (st) h sz k n := by
  obtain ⟨p, l, e, R, s, m, args, below, meth, c⟩ := Γ
  obtain ⟨hx, hb, hml, hown, hts, hK, hO, hV, hbs, hlk, hnm, hrt, hRm⟩ := X
  intro H locs ls hz hR hS hl
  exact lv_ldcw hx hb hown (hts _ hw) d (kk H locs ls hz hR hS hl)
theorem xr_ldc2 (X : xX Γ Ω cc nL own nm ret rf rl rc rs) {i : Nat} {v : Int64} (hw : Cond.constantLong own i v ∈ x_big) (d : decode cc pc = .ok (.ldc2_w i, 3)) (kk : xG Γ Ω nL Q (pc + 3) lv (.long v :: st) h sz k n) : xG Γ Ω nL Q (pc) lv (st) h sz k n := by
  obtain ⟨p, l, e, R, s, m, args, below, meth, c⟩ := Γ
  obtain ⟨hx, hb, hml, hown, hts, hK, hO, hV, hbs, hlk, hnm, hrt, hRm⟩ := X
  intro H locs ls hz hR hS hl
  exact lv_ldc2 hx hb hown (hts _ hw) d (kk H locs ls hz hR hS hl)
theorem xr_null (X : xX Γ Ω cc nL own nm ret rf rl rc rs) (d : decode cc pc = .ok (.aconst_null, 1)) (kk : xG Γ Ω nL Q (pc + 1) lv (.null :: st) h sz k n) : xG Γ Ω nL Q (pc) lv (st) h sz k n := by
  obtain ⟨p, l, e, R, s, m, args, below, meth, c⟩ := Γ
  obtain ⟨hx, hb, hml, hown, hts, hK, hO, hV, hbs, hlk, hnm, hrt, hRm⟩ := X
  intro H locs ls hz hR hS hl
  exact lv_null hx hb d (kk H locs ls hz hR hS hl)
theorem xr_iload_n (X : xX Γ Ω cc nL own nm ret rf rl rc rs) {q : Fin 4} {i : Nat} {x : Int32} (j : Nat) (d : decode cc pc = .ok (.iload_n q, 1)) (hi : (q : Nat) = i) (hj : lv[j]? = some (i, .int x)) (kk : xG Γ Ω nL Q (pc + 1) lv (.int x :: st) h sz k n) : xG Γ Ω nL Q (pc) lv (st) h sz k n := by
  obtain ⟨p, l, e, R, s, m, args, below, meth, c⟩ := Γ
  obtain ⟨hx, hb, hml, hown, hts, hK, hO, hV, hbs, hlk, hnm, hrt, hRm⟩ := X
  intro H locs ls hz hR hS hl
  exact lv_iload_n hx hb d hi (lv_at hl j hj) (kk H locs ls hz hR hS hl)
theorem xr_iload (X : xX Γ Ω cc nL own nm ret rf rl rc rs) {i : Nat} {x : Int32} (j : Nat) (d : decode cc pc = .ok (.iload i, 2)) (hj : lv[j]? = some (i, .int x)) (kk : xG Γ Ω nL Q (pc + 2) lv (.int x :: st) h sz k n) : xG Γ Ω nL Q (pc) lv (st) h sz k n := by
  obtain ⟨p, l, e, R, s, m, args, below, meth, c⟩ := Γ
  obtain ⟨hx, hb, hml, hown, hts, hK, hO, hV, hbs, hlk, hnm, hrt, hRm⟩ := X
  intro H locs ls hz hR hS hl
  exact lv_iload hx hb d (lv_at hl j hj) (kk H locs ls hz hR hS hl)
theorem xr_lload_n (X : xX Γ Ω cc nL own nm ret rf rl rc rs) {q : Fin 4} {i : Nat} {x : Int64} (j : Nat) (d : decode cc pc = .ok (.lload_n q, 1)) (hi : (q : Nat) = i) (hj : lv[j]? = some (i, .long x)) (kk : xG Γ Ω nL Q (pc + 1) lv (.long x :: st) h sz k n) : xG Γ Ω nL Q (pc) lv (st) h sz k n := by
  obtain ⟨p, l, e, R, s, m, args, below, meth, c⟩ := Γ
  obtain ⟨hx, hb, hml, hown, hts, hK, hO, hV, hbs, hlk, hnm, hrt, hRm⟩ := X
  intro H locs ls hz hR hS hl
  exact lv_lload_n hx hb d hi (lv_at hl j hj) (kk H locs ls hz hR hS hl)
theorem xr_lload (X : xX Γ Ω cc nL own nm ret rf rl rc rs) {i : Nat} {x : Int64} (j : Nat) (d : decode cc pc = .ok (.lload i, 2)) (hj : lv[j]? = some (i, .long x)) (kk : xG Γ Ω nL Q (pc + 2) lv (.long x :: st) h sz k n) : xG Γ Ω nL Q (pc) lv (st) h sz k n := by
  obtain ⟨p, l, e, R, s, m, args, below, meth, c⟩ := Γ
  obtain ⟨hx, hb, hml, hown, hts, hK, hO, hV, hbs, hlk, hnm, hrt, hRm⟩ := X
  intro H locs ls hz hR hS hl
  exact lv_lload hx hb d (lv_at hl j hj) (kk H locs ls hz hR hS hl)
theorem xr_aload_n (X : xX Γ Ω cc nL own nm ret rf rl rc rs) {q : Fin 4} {i : Nat} {x : Nat} (j : Nat) (d : decode cc pc = .ok (.aload_n q, 1)) (hi : (q : Nat) = i) (hj : lv[j]? = some (i, .ref x)) (kk : xG Γ Ω nL Q (pc + 1) lv (.ref x :: st) h sz k n) : xG Γ Ω nL Q (pc) lv (st) h sz k n := by
  obtain ⟨p, l, e, R, s, m, args, below, meth, c⟩ := Γ
  obtain ⟨hx, hb, hml, hown, hts, hK, hO, hV, hbs, hlk, hnm, hrt, hRm⟩ := X
  intro H locs ls hz hR hS hl
  exact lv_aload_n hx hb d hi (lv_at hl j hj) (kk H locs ls hz hR hS hl)
theorem xr_aload (X : xX Γ Ω cc nL own nm ret rf rl rc rs) {i : Nat} {x : Nat} (j : Nat) (d : decode cc pc = .ok (.aload i, 2)) (hj : lv[j]? = some (i, .ref x)) (kk : xG Γ Ω nL Q (pc + 2) lv (.ref x :: st) h sz k n) : xG Γ Ω nL Q (pc) lv (st) h sz k n := by
  obtain ⟨p, l, e, R, s, m, args, below, meth, c⟩ := Γ
  obtain ⟨hx, hb, hml, hown, hts, hK, hO, hV, hbs, hlk, hnm, hrt, hRm⟩ := X
  intro H locs ls hz hR hS hl
  exact lv_aload hx hb d (lv_at hl j hj) (kk H locs ls hz hR hS hl)
theorem xr_aload_nN (X : xX Γ Ω cc nL own nm ret rf rl rc rs) {q : Fin 4} {i : Nat} (j : Nat) (d : decode cc pc = .ok (.aload_n q, 1)) (hi : (q : Nat) = i) (hj : lv[j]? = some (i, .null)) (kk : xG Γ Ω nL Q (pc + 1) lv (.null :: st) h sz k n) : xG Γ Ω nL Q (pc) lv (st) h sz k n := by
  obtain ⟨p, l, e, R, s, m, args, below, meth, c⟩ := Γ
  obtain ⟨hx, hb, hml, hown, hts, hK, hO, hV, hbs, hlk, hnm, hrt, hRm⟩ := X
  intro H locs ls hz hR hS hl
  exact lv_aload_nN hx hb d hi (lv_at hl j hj) (kk H locs ls hz hR hS hl)
theorem xr_aloadN (X : xX Γ Ω cc nL own nm ret rf rl rc rs) {i : Nat} (j : Nat) (d : decode cc pc = .ok (.aload i, 2)) (hj : lv[j]? = some (i, .null)) (kk : xG Γ Ω nL Q (pc + 2) lv (.null :: st) h sz k n) : xG Γ Ω nL Q (pc) lv (st) h sz k n := by
  obtain ⟨p, l, e, R, s, m, args, below, meth, c⟩ := Γ
  obtain ⟨hx, hb, hml, hown, hts, hK, hO, hV, hbs, hlk, hnm, hrt, hRm⟩ := X
  intro H locs ls hz hR hS hl
  exact lv_aloadN hx hb d (lv_at hl j hj) (kk H locs ls hz hR hS hl)
theorem xr_istore_n (X : xX Γ Ω cc nL own nm ret rf rl rc rs) {q : Fin 4} {i : Nat} {x : Int32} {lv' : List (Nat × Value)} (d : decode cc pc = .ok (.istore_n q, 1)) (hi : (q : Nat) = i) (hn : Nat.ble (i + 1) nL = true) (hf : (i, Value.int x) :: lv.filter (fun q => !(q.1 == i) && !(q.1 + 1 == i && q.2.category == 2)) = lv') (kk : xG Γ Ω nL Q (pc + 1) lv' (st) h sz k n) : xG Γ Ω nL Q (pc) lv (Value.int x :: st) h sz k n := by
  obtain ⟨p, l, e, R, s, m, args, below, meth, c⟩ := Γ
  obtain ⟨hx, hb, hml, hown, hts, hK, hO, hV, hbs, hlk, hnm, hrt, hRm⟩ := X
  intro H locs ls hz hR hS hl
  exact lv_istore_n hx hb d hi hl (Nat.le_of_ble_eq_true hn) hf (fun ls2 hl2 => kk H locs ls2 hz hR hS hl2)
theorem xr_istore (X : xX Γ Ω cc nL own nm ret rf rl rc rs) {i : Nat} {x : Int32} {lv' : List (Nat × Value)} (d : decode cc pc = .ok (.istore i, 2)) (hn : Nat.ble (i + 1) nL = true) (hf : (i, Value.int x) :: lv.filter (fun q => !(q.1 == i) && !(q.1 + 1 == i && q.2.category == 2)) = lv') (kk : xG Γ Ω nL Q (pc + 2) lv' (st) h sz k n) : xG Γ Ω nL Q (pc) lv (Value.int x :: st) h sz k n := by
  obtain ⟨p, l, e, R, s, m, args, below, meth, c⟩ := Γ
  obtain ⟨hx, hb, hml, hown, hts, hK, hO, hV, hbs, hlk, hnm, hrt, hRm⟩ := X
  intro H locs ls hz hR hS hl
  exact lv_istore hx hb d hl (Nat.le_of_ble_eq_true hn) hf (fun ls2 hl2 => kk H locs ls2 hz hR hS hl2)
theorem xr_lstore_n (X : xX Γ Ω cc nL own nm ret rf rl rc rs) {q : Fin 4} {i : Nat} {x : Int64} {lv' : List (Nat × Value)} (d : decode cc pc = .ok (.lstore_n q, 1)) (hi : (q : Nat) = i) (hn : Nat.ble (i + 2) nL = true) (hf : (i, Value.long x) :: lv.filter (fun q => !(q.1 == i) && (!(q.1 == i + 1) && !(q.1 + 1 == i && q.2.category == 2))) = lv') (kk : xG Γ Ω nL Q (pc + 1) lv' (st) h sz k n) : xG Γ Ω nL Q (pc) lv (Value.long x :: st) h sz k n := by
  obtain ⟨p, l, e, R, s, m, args, below, meth, c⟩ := Γ
  obtain ⟨hx, hb, hml, hown, hts, hK, hO, hV, hbs, hlk, hnm, hrt, hRm⟩ := X
  intro H locs ls hz hR hS hl
  exact lv_lstore_n hx hb d hi hl (Nat.le_of_ble_eq_true hn) hf (fun ls2 hl2 => kk H locs ls2 hz hR hS hl2)
theorem xr_lstore (X : xX Γ Ω cc nL own nm ret rf rl rc rs) {i : Nat} {x : Int64} {lv' : List (Nat × Value)} (d : decode cc pc = .ok (.lstore i, 2)) (hn : Nat.ble (i + 2) nL = true) (hf : (i, Value.long x) :: lv.filter (fun q => !(q.1 == i) && (!(q.1 == i + 1) && !(q.1 + 1 == i && q.2.category == 2))) = lv') (kk : xG Γ Ω nL Q (pc + 2) lv' (st) h sz k n) : xG Γ Ω nL Q (pc) lv (Value.long x :: st) h sz k n := by
  obtain ⟨p, l, e, R, s, m, args, below, meth, c⟩ := Γ
  obtain ⟨hx, hb, hml, hown, hts, hK, hO, hV, hbs, hlk, hnm, hrt, hRm⟩ := X
  intro H locs ls hz hR hS hl
  exact lv_lstore hx hb d hl (Nat.le_of_ble_eq_true hn) hf (fun ls2 hl2 => kk H locs ls2 hz hR hS hl2)
theorem xr_astore_n (X : xX Γ Ω cc nL own nm ret rf rl rc rs) {q : Fin 4} {i : Nat} {x : Nat} {lv' : List (Nat × Value)} (d : decode cc pc = .ok (.astore_n q, 1)) (hi : (q : Nat) = i) (hn : Nat.ble (i + 1) nL = true) (hf : (i, Value.ref x) :: lv.filter (fun q => !(q.1 == i) && !(q.1 + 1 == i && q.2.category == 2)) = lv') (kk : xG Γ Ω nL Q (pc + 1) lv' (st) h sz k n) : xG Γ Ω nL Q (pc) lv (Value.ref x :: st) h sz k n := by
  obtain ⟨p, l, e, R, s, m, args, below, meth, c⟩ := Γ
  obtain ⟨hx, hb, hml, hown, hts, hK, hO, hV, hbs, hlk, hnm, hrt, hRm⟩ := X
  intro H locs ls hz hR hS hl
  exact lv_astore_n hx hb d hi hl (Nat.le_of_ble_eq_true hn) hf (fun ls2 hl2 => kk H locs ls2 hz hR hS hl2)
theorem xr_astore (X : xX Γ Ω cc nL own nm ret rf rl rc rs) {i : Nat} {x : Nat} {lv' : List (Nat × Value)} (d : decode cc pc = .ok (.astore i, 2)) (hn : Nat.ble (i + 1) nL = true) (hf : (i, Value.ref x) :: lv.filter (fun q => !(q.1 == i) && !(q.1 + 1 == i && q.2.category == 2)) = lv') (kk : xG Γ Ω nL Q (pc + 2) lv' (st) h sz k n) : xG Γ Ω nL Q (pc) lv (Value.ref x :: st) h sz k n := by
  obtain ⟨p, l, e, R, s, m, args, below, meth, c⟩ := Γ
  obtain ⟨hx, hb, hml, hown, hts, hK, hO, hV, hbs, hlk, hnm, hrt, hRm⟩ := X
  intro H locs ls hz hR hS hl
  exact lv_astore hx hb d hl (Nat.le_of_ble_eq_true hn) hf (fun ls2 hl2 => kk H locs ls2 hz hR hS hl2)
theorem xr_astore_nN (X : xX Γ Ω cc nL own nm ret rf rl rc rs) {q : Fin 4} {i : Nat} {lv' : List (Nat × Value)} (d : decode cc pc = .ok (.astore_n q, 1)) (hi : (q : Nat) = i) (hn : Nat.ble (i + 1) nL = true) (hf : (i, Value.null) :: lv.filter (fun q => !(q.1 == i) && !(q.1 + 1 == i && q.2.category == 2)) = lv') (kk : xG Γ Ω nL Q (pc + 1) lv' (st) h sz k n) : xG Γ Ω nL Q (pc) lv (Value.null :: st) h sz k n := by
  obtain ⟨p, l, e, R, s, m, args, below, meth, c⟩ := Γ
  obtain ⟨hx, hb, hml, hown, hts, hK, hO, hV, hbs, hlk, hnm, hrt, hRm⟩ := X
  intro H locs ls hz hR hS hl
  exact lv_astore_nN hx hb d hi hl (Nat.le_of_ble_eq_true hn) hf (fun ls2 hl2 => kk H locs ls2 hz hR hS hl2)
theorem xr_astoreN (X : xX Γ Ω cc nL own nm ret rf rl rc rs) {i : Nat} {lv' : List (Nat × Value)} (d : decode cc pc = .ok (.astore i, 2)) (hn : Nat.ble (i + 1) nL = true) (hf : (i, Value.null) :: lv.filter (fun q => !(q.1 == i) && !(q.1 + 1 == i && q.2.category == 2)) = lv') (kk : xG Γ Ω nL Q (pc + 2) lv' (st) h sz k n) : xG Γ Ω nL Q (pc) lv (Value.null :: st) h sz k n := by
  obtain ⟨p, l, e, R, s, m, args, below, meth, c⟩ := Γ
  obtain ⟨hx, hb, hml, hown, hts, hK, hO, hV, hbs, hlk, hnm, hrt, hRm⟩ := X
  intro H locs ls hz hR hS hl
  exact lv_astoreN hx hb d hl (Nat.le_of_ble_eq_true hn) hf (fun ls2 hl2 => kk H locs ls2 hz hR hS hl2)
theorem xr_iinc (X : xX Γ Ω cc nL own nm ret rf rl rc rs) {i : Nat} {z : Int} {x v : Int32} {lv' : List (Nat × Value)} (j : Nat) (d : decode cc pc = .ok (.iinc i z, 3)) (hj : lv[j]? = some (i, .int x)) (hv : x + Int32.ofInt z = v) (hn : Nat.ble (i + 1) nL = true) (hf : (i, Value.int v) :: lv.filter (fun q => !(q.1 == i) && !(q.1 + 1 == i && q.2.category == 2)) = lv') (kk : xG Γ Ω nL Q (pc + 3) lv' (st) h sz k n) : xG Γ Ω nL Q (pc) lv (st) h sz k n := by
  obtain ⟨p, l, e, R, s, m, args, below, meth, c⟩ := Γ
  obtain ⟨hx, hb, hml, hown, hts, hK, hO, hV, hbs, hlk, hnm, hrt, hRm⟩ := X
  intro H locs ls hz hR hS hl
  exact lv_iinc hx hb d hl hj hv (Nat.le_of_ble_eq_true hn) hf (fun ls2 hl2 => kk H locs ls2 hz hR hS hl2)
theorem xr_iadd (X : xX Γ Ω cc nL own nm ret rf rl rc rs) {x y : Int32} (d : decode cc pc = .ok (.iadd, 1)) (kk : xG Γ Ω nL Q (pc + 1) lv (.int (x + y) :: st) h sz k n) : xG Γ Ω nL Q (pc) lv (.int y :: .int x :: st) h sz k n := by
  obtain ⟨p, l, e, R, s, m, args, below, meth, c⟩ := Γ
  obtain ⟨hx, hb, hml, hown, hts, hK, hO, hV, hbs, hlk, hnm, hrt, hRm⟩ := X
  intro H locs ls hz hR hS hl
  exact lv_iadd hx hb d (kk H locs ls hz hR hS hl)
theorem xr_isub (X : xX Γ Ω cc nL own nm ret rf rl rc rs) {x y : Int32} (d : decode cc pc = .ok (.isub, 1)) (kk : xG Γ Ω nL Q (pc + 1) lv (.int (x - y) :: st) h sz k n) : xG Γ Ω nL Q (pc) lv (.int y :: .int x :: st) h sz k n := by
  obtain ⟨p, l, e, R, s, m, args, below, meth, c⟩ := Γ
  obtain ⟨hx, hb, hml, hown, hts, hK, hO, hV, hbs, hlk, hnm, hrt, hRm⟩ := X
  intro H locs ls hz hR hS hl
  exact lv_isub hx hb d (kk H locs ls hz hR hS hl)
theorem xr_imul (X : xX Γ Ω cc nL own nm ret rf rl rc rs) {x y : Int32} (d : decode cc pc = .ok (.imul, 1)) (kk : xG Γ Ω nL Q (pc + 1) lv (.int (x * y) :: st) h sz k n) : xG Γ Ω nL Q (pc) lv (.int y :: .int x :: st) h sz k n := by
  obtain ⟨p, l, e, R, s, m, args, below, meth, c⟩ := Γ
  obtain ⟨hx, hb, hml, hown, hts, hK, hO, hV, hbs, hlk, hnm, hrt, hRm⟩ := X
  intro H locs ls hz hR hS hl
  exact lv_imul hx hb d (kk H locs ls hz hR hS hl)
theorem xr_iand (X : xX Γ Ω cc nL own nm ret rf rl rc rs) {x y : Int32} (d : decode cc pc = .ok (.iand, 1)) (kk : xG Γ Ω nL Q (pc + 1) lv (.int (x &&& y) :: st) h sz k n) : xG Γ Ω nL Q (pc) lv (.int y :: .int x :: st) h sz k n := by
  obtain ⟨p, l, e, R, s, m, args, below, meth, c⟩ := Γ
  obtain ⟨hx, hb, hml, hown, hts, hK, hO, hV, hbs, hlk, hnm, hrt, hRm⟩ := X
  intro H locs ls hz hR hS hl
  exact lv_iand hx hb d (kk H locs ls hz hR hS hl)
theorem xr_ior (X : xX Γ Ω cc nL own nm ret rf rl rc rs) {x y : Int32} (d : decode cc pc = .ok (.ior, 1)) (kk : xG Γ Ω nL Q (pc + 1) lv (.int (x ||| y) :: st) h sz k n) : xG Γ Ω nL Q (pc) lv (.int y :: .int x :: st) h sz k n := by
  obtain ⟨p, l, e, R, s, m, args, below, meth, c⟩ := Γ
  obtain ⟨hx, hb, hml, hown, hts, hK, hO, hV, hbs, hlk, hnm, hrt, hRm⟩ := X
  intro H locs ls hz hR hS hl
  exact lv_ior hx hb d (kk H locs ls hz hR hS hl)
theorem xr_ixor (X : xX Γ Ω cc nL own nm ret rf rl rc rs) {x y : Int32} (d : decode cc pc = .ok (.ixor, 1)) (kk : xG Γ Ω nL Q (pc + 1) lv (.int (x ^^^ y) :: st) h sz k n) : xG Γ Ω nL Q (pc) lv (.int y :: .int x :: st) h sz k n := by
  obtain ⟨p, l, e, R, s, m, args, below, meth, c⟩ := Γ
  obtain ⟨hx, hb, hml, hown, hts, hK, hO, hV, hbs, hlk, hnm, hrt, hRm⟩ := X
  intro H locs ls hz hR hS hl
  exact lv_ixor hx hb d (kk H locs ls hz hR hS hl)
theorem xr_ishl (X : xX Γ Ω cc nL own nm ret rf rl rc rs) {x y : Int32} (d : decode cc pc = .ok (.ishl, 1)) (kk : xG Γ Ω nL Q (pc + 1) lv (.int (x <<< (y &&& 31)) :: st) h sz k n) : xG Γ Ω nL Q (pc) lv (.int y :: .int x :: st) h sz k n := by
  obtain ⟨p, l, e, R, s, m, args, below, meth, c⟩ := Γ
  obtain ⟨hx, hb, hml, hown, hts, hK, hO, hV, hbs, hlk, hnm, hrt, hRm⟩ := X
  intro H locs ls hz hR hS hl
  exact lv_ishl hx hb d (kk H locs ls hz hR hS hl)
theorem xr_ishr (X : xX Γ Ω cc nL own nm ret rf rl rc rs) {x y : Int32} (d : decode cc pc = .ok (.ishr, 1)) (kk : xG Γ Ω nL Q (pc + 1) lv (.int (x >>> (y &&& 31)) :: st) h sz k n) : xG Γ Ω nL Q (pc) lv (.int y :: .int x :: st) h sz k n := by
  obtain ⟨p, l, e, R, s, m, args, below, meth, c⟩ := Γ
  obtain ⟨hx, hb, hml, hown, hts, hK, hO, hV, hbs, hlk, hnm, hrt, hRm⟩ := X
  intro H locs ls hz hR hS hl
  exact lv_ishr hx hb d (kk H locs ls hz hR hS hl)
theorem xr_iushr (X : xX Γ Ω cc nL own nm ret rf rl rc rs) {x y : Int32} (d : decode cc pc = .ok (.iushr, 1)) (kk : xG Γ Ω nL Q (pc + 1) lv (.int ((x.toUInt32 >>> (y.toUInt32 &&& Int32.toUInt32 31)).toInt32) :: st) h sz k n) : xG Γ Ω nL Q (pc) lv (.int y :: .int x :: st) h sz k n := by
  obtain ⟨p, l, e, R, s, m, args, below, meth, c⟩ := Γ
  obtain ⟨hx, hb, hml, hown, hts, hK, hO, hV, hbs, hlk, hnm, hrt, hRm⟩ := X
  intro H locs ls hz hR hS hl
  exact lv_iushr hx hb d rfl (kk H locs ls hz hR hS hl)
theorem xr_idiv (X : xX Γ Ω cc nL own nm ret rf rl rc rs) {x y : Int32} (d : decode cc pc = .ok (.idiv, 1)) (hne : ¬ y = 0) (kk : xG Γ Ω nL Q (pc + 1) lv (.int (x / y) :: st) h sz k n) : xG Γ Ω nL Q (pc) lv (.int y :: .int x :: st) h sz k n := by
  obtain ⟨p, l, e, R, s, m, args, below, meth, c⟩ := Γ
  obtain ⟨hx, hb, hml, hown, hts, hK, hO, hV, hbs, hlk, hnm, hrt, hRm⟩ := X
  intro H locs ls hz hR hS hl
  exact lv_idiv hx hb d hne (kk H locs ls hz hR hS hl)
theorem xr_irem (X : xX Γ Ω cc nL own nm ret rf rl rc rs) {x y : Int32} (d : decode cc pc = .ok (.irem, 1)) (hne : ¬ y = 0) (kk : xG Γ Ω nL Q (pc + 1) lv (.int (x - x / y * y) :: st) h sz k n) : xG Γ Ω nL Q (pc) lv (.int y :: .int x :: st) h sz k n := by
  obtain ⟨p, l, e, R, s, m, args, below, meth, c⟩ := Γ
  obtain ⟨hx, hb, hml, hown, hts, hK, hO, hV, hbs, hlk, hnm, hrt, hRm⟩ := X
  intro H locs ls hz hR hS hl
  exact lv_irem hx hb d hne (kk H locs ls hz hR hS hl)
theorem xr_ineg (X : xX Γ Ω cc nL own nm ret rf rl rc rs) {x : Int32} (d : decode cc pc = .ok (.ineg, 1)) (kk : xG Γ Ω nL Q (pc + 1) lv (.int (-x) :: st) h sz k n) : xG Γ Ω nL Q (pc) lv (.int x :: st) h sz k n := by
  obtain ⟨p, l, e, R, s, m, args, below, meth, c⟩ := Γ
  obtain ⟨hx, hb, hml, hown, hts, hK, hO, hV, hbs, hlk, hnm, hrt, hRm⟩ := X
  intro H locs ls hz hR hS hl
  exact lv_ineg hx hb d (kk H locs ls hz hR hS hl)
theorem xr_ladd (X : xX Γ Ω cc nL own nm ret rf rl rc rs) {x y : Int64} (d : decode cc pc = .ok (.ladd, 1)) (kk : xG Γ Ω nL Q (pc + 1) lv (.long (x + y) :: st) h sz k n) : xG Γ Ω nL Q (pc) lv (.long y :: .long x :: st) h sz k n := by
  obtain ⟨p, l, e, R, s, m, args, below, meth, c⟩ := Γ
  obtain ⟨hx, hb, hml, hown, hts, hK, hO, hV, hbs, hlk, hnm, hrt, hRm⟩ := X
  intro H locs ls hz hR hS hl
  exact lv_ladd hx hb d (kk H locs ls hz hR hS hl)
theorem xr_lsub (X : xX Γ Ω cc nL own nm ret rf rl rc rs) {x y : Int64} (d : decode cc pc = .ok (.lsub, 1)) (kk : xG Γ Ω nL Q (pc + 1) lv (.long (x - y) :: st) h sz k n) : xG Γ Ω nL Q (pc) lv (.long y :: .long x :: st) h sz k n := by
  obtain ⟨p, l, e, R, s, m, args, below, meth, c⟩ := Γ
  obtain ⟨hx, hb, hml, hown, hts, hK, hO, hV, hbs, hlk, hnm, hrt, hRm⟩ := X
  intro H locs ls hz hR hS hl
  exact lv_lsub hx hb d (kk H locs ls hz hR hS hl)
theorem xr_lmul (X : xX Γ Ω cc nL own nm ret rf rl rc rs) {x y : Int64} (d : decode cc pc = .ok (.lmul, 1)) (kk : xG Γ Ω nL Q (pc + 1) lv (.long (x * y) :: st) h sz k n) : xG Γ Ω nL Q (pc) lv (.long y :: .long x :: st) h sz k n := by
  obtain ⟨p, l, e, R, s, m, args, below, meth, c⟩ := Γ
  obtain ⟨hx, hb, hml, hown, hts, hK, hO, hV, hbs, hlk, hnm, hrt, hRm⟩ := X
  intro H locs ls hz hR hS hl
  exact lv_lmul hx hb d (kk H locs ls hz hR hS hl)
theorem xr_land (X : xX Γ Ω cc nL own nm ret rf rl rc rs) {x y : Int64} (d : decode cc pc = .ok (.land, 1)) (kk : xG Γ Ω nL Q (pc + 1) lv (.long (x &&& y) :: st) h sz k n) : xG Γ Ω nL Q (pc) lv (.long y :: .long x :: st) h sz k n := by
  obtain ⟨p, l, e, R, s, m, args, below, meth, c⟩ := Γ
  obtain ⟨hx, hb, hml, hown, hts, hK, hO, hV, hbs, hlk, hnm, hrt, hRm⟩ := X
  intro H locs ls hz hR hS hl
  exact lv_land hx hb d (kk H locs ls hz hR hS hl)
theorem xr_lor (X : xX Γ Ω cc nL own nm ret rf rl rc rs) {x y : Int64} (d : decode cc pc = .ok (.lor, 1)) (kk : xG Γ Ω nL Q (pc + 1) lv (.long (x ||| y) :: st) h sz k n) : xG Γ Ω nL Q (pc) lv (.long y :: .long x :: st) h sz k n := by
  obtain ⟨p, l, e, R, s, m, args, below, meth, c⟩ := Γ
  obtain ⟨hx, hb, hml, hown, hts, hK, hO, hV, hbs, hlk, hnm, hrt, hRm⟩ := X
  intro H locs ls hz hR hS hl
  exact lv_lor hx hb d (kk H locs ls hz hR hS hl)
theorem xr_lrem (X : xX Γ Ω cc nL own nm ret rf rl rc rs) {x y : Int64} (d : decode cc pc = .ok (.lrem, 1)) (hne : ¬ y = 0) (kk : xG Γ Ω nL Q (pc + 1) lv (.long (x - x / y * y) :: st) h sz k n) : xG Γ Ω nL Q (pc) lv (.long y :: .long x :: st) h sz k n := by
  obtain ⟨p, l, e, R, s, m, args, below, meth, c⟩ := Γ
  obtain ⟨hx, hb, hml, hown, hts, hK, hO, hV, hbs, hlk, hnm, hrt, hRm⟩ := X
  intro H locs ls hz hR hS hl
  exact lv_lrem hx hb d hne (kk H locs ls hz hR hS hl)
theorem xr_lshl (X : xX Γ Ω cc nL own nm ret rf rl rc rs) {x : Int64} {y : Int32} (d : decode cc pc = .ok (.lshl, 1)) (kk : xG Γ Ω nL Q (pc + 1) lv (.long (x <<< (y.toInt64 &&& 63)) :: st) h sz k n) : xG Γ Ω nL Q (pc) lv (.int y :: .long x :: st) h sz k n := by
  obtain ⟨p, l, e, R, s, m, args, below, meth, c⟩ := Γ
  obtain ⟨hx, hb, hml, hown, hts, hK, hO, hV, hbs, hlk, hnm, hrt, hRm⟩ := X
  intro H locs ls hz hR hS hl
  exact lv_lshl hx hb d rfl (kk H locs ls hz hR hS hl)
theorem xr_lshr (X : xX Γ Ω cc nL own nm ret rf rl rc rs) {x : Int64} {y : Int32} (d : decode cc pc = .ok (.lshr, 1)) (kk : xG Γ Ω nL Q (pc + 1) lv (.long (x >>> (y.toInt64 &&& 63)) :: st) h sz k n) : xG Γ Ω nL Q (pc) lv (.int y :: .long x :: st) h sz k n := by
  obtain ⟨p, l, e, R, s, m, args, below, meth, c⟩ := Γ
  obtain ⟨hx, hb, hml, hown, hts, hK, hO, hV, hbs, hlk, hnm, hrt, hRm⟩ := X
  intro H locs ls hz hR hS hl
  exact lv_lshr hx hb d rfl (kk H locs ls hz hR hS hl)
theorem xr_lushr (X : xX Γ Ω cc nL own nm ret rf rl rc rs) {x : Int64} {y : Int32} (d : decode cc pc = .ok (.lushr, 1)) (kk : xG Γ Ω nL Q (pc + 1) lv (.long ((x.toUInt64 >>> (y.toInt64.toUInt64 &&& Int64.toUInt64 63)).toInt64) :: st) h sz k n) : xG Γ Ω nL Q (pc) lv (.int y :: .long x :: st) h sz k n := by
  obtain ⟨p, l, e, R, s, m, args, below, meth, c⟩ := Γ
  obtain ⟨hx, hb, hml, hown, hts, hK, hO, hV, hbs, hlk, hnm, hrt, hRm⟩ := X
  intro H locs ls hz hR hS hl
  exact lv_lushr hx hb d rfl (kk H locs ls hz hR hS hl)
theorem xr_lcmp (X : xX Γ Ω cc nL own nm ret rf rl rc rs) {x y : Int64} (d : decode cc pc = .ok (.lcmp, 1)) (kk : xG Γ Ω nL Q (pc + 1) lv (.int (lg_cmp x y) :: st) h sz k n) : xG Γ Ω nL Q (pc) lv (.long y :: .long x :: st) h sz k n := by
  obtain ⟨p, l, e, R, s, m, args, below, meth, c⟩ := Γ
  obtain ⟨hx, hb, hml, hown, hts, hK, hO, hV, hbs, hlk, hnm, hrt, hRm⟩ := X
  intro H locs ls hz hR hS hl
  exact W.lcmp hx hb d (kk H locs ls hz hR hS hl)
theorem xr_i2l (X : xX Γ Ω cc nL own nm ret rf rl rc rs) {x : Int32} (d : decode cc pc = .ok (.i2l, 1)) (kk : xG Γ Ω nL Q (pc + 1) lv (.long x.toInt64 :: st) h sz k n) : xG Γ Ω nL Q (pc) lv (.int x :: st) h sz k n := by
  obtain ⟨p, l, e, R, s, m, args, below, meth, c⟩ := Γ
  obtain ⟨hx, hb, hml, hown, hts, hK, hO, hV, hbs, hlk, hnm, hrt, hRm⟩ := X
  intro H locs ls hz hR hS hl
  exact lv_i2l hx hb d rfl (kk H locs ls hz hR hS hl)
theorem xr_l2i (X : xX Γ Ω cc nL own nm ret rf rl rc rs) {x : Int64} (d : decode cc pc = .ok (.l2i, 1)) (kk : xG Γ Ω nL Q (pc + 1) lv (.int x.toInt32 :: st) h sz k n) : xG Γ Ω nL Q (pc) lv (.long x :: st) h sz k n := by
  obtain ⟨p, l, e, R, s, m, args, below, meth, c⟩ := Γ
  obtain ⟨hx, hb, hml, hown, hts, hK, hO, hV, hbs, hlk, hnm, hrt, hRm⟩ := X
  intro H locs ls hz hR hS hl
  exact lv_l2i hx hb d rfl (kk H locs ls hz hR hS hl)
theorem xr_i2b (X : xX Γ Ω cc nL own nm ret rf rl rc rs) {x : Int32} (d : decode cc pc = .ok (.i2b, 1)) (kk : xG Γ Ω nL Q (pc + 1) lv (.int x.toInt8.toInt32 :: st) h sz k n) : xG Γ Ω nL Q (pc) lv (.int x :: st) h sz k n := by
  obtain ⟨p, l, e, R, s, m, args, below, meth, c⟩ := Γ
  obtain ⟨hx, hb, hml, hown, hts, hK, hO, hV, hbs, hlk, hnm, hrt, hRm⟩ := X
  intro H locs ls hz hR hS hl
  exact lv_i2b hx hb d rfl (kk H locs ls hz hR hS hl)
theorem xr_i2s (X : xX Γ Ω cc nL own nm ret rf rl rc rs) {x : Int32} (d : decode cc pc = .ok (.i2s, 1)) (kk : xG Γ Ω nL Q (pc + 1) lv (.int x.toInt16.toInt32 :: st) h sz k n) : xG Γ Ω nL Q (pc) lv (.int x :: st) h sz k n := by
  obtain ⟨p, l, e, R, s, m, args, below, meth, c⟩ := Γ
  obtain ⟨hx, hb, hml, hown, hts, hK, hO, hV, hbs, hlk, hnm, hrt, hRm⟩ := X
  intro H locs ls hz hR hS hl
  exact lv_i2s hx hb d rfl (kk H locs ls hz hR hS hl)
theorem xr_i2c (X : xX Γ Ω cc nL own nm ret rf rl rc rs) {x : Int32} (d : decode cc pc = .ok (.i2c, 1)) (kk : xG Γ Ω nL Q (pc + 1) lv (.int (x.toUInt32 % 65536).toInt32 :: st) h sz k n) : xG Γ Ω nL Q (pc) lv (.int x :: st) h sz k n := by
  obtain ⟨p, l, e, R, s, m, args, below, meth, c⟩ := Γ
  obtain ⟨hx, hb, hml, hown, hts, hK, hO, hV, hbs, hlk, hnm, hrt, hRm⟩ := X
  intro H locs ls hz hR hS hl
  exact lv_i2c hx hb d rfl (kk H locs ls hz hR hS hl)
theorem xr_dup (X : xX Γ Ω cc nL own nm ret rf rl rc rs) {va : Value} (d : decode cc pc = .ok (.dup, 1)) (hva : va.category = 1) (kk : xG Γ Ω nL Q (pc + 1) lv (va :: va :: st) h sz k n) : xG Γ Ω nL Q (pc) lv (va :: st) h sz k n := by
  obtain ⟨p, l, e, R, s, m, args, below, meth, c⟩ := Γ
  obtain ⟨hx, hb, hml, hown, hts, hK, hO, hV, hbs, hlk, hnm, hrt, hRm⟩ := X
  intro H locs ls hz hR hS hl
  exact lv_dup hx hb d hva (kk H locs ls hz hR hS hl)
theorem xr_dup2 (X : xX Γ Ω cc nL own nm ret rf rl rc rs) {va vb : Value} (d : decode cc pc = .ok (.dup2, 1)) (hva : va.category = 1) (hvb : vb.category = 1) (kk : xG Γ Ω nL Q (pc + 1) lv (va :: vb :: va :: vb :: st) h sz k n) : xG Γ Ω nL Q (pc) lv (va :: vb :: st) h sz k n := by
  obtain ⟨p, l, e, R, s, m, args, below, meth, c⟩ := Γ
  obtain ⟨hx, hb, hml, hown, hts, hK, hO, hV, hbs, hlk, hnm, hrt, hRm⟩ := X
  intro H locs ls hz hR hS hl
  exact lv_dup2_11 hx hb d hva hvb (kk H locs ls hz hR hS hl)
theorem xr_pop (X : xX Γ Ω cc nL own nm ret rf rl rc rs) {va : Value} (d : decode cc pc = .ok (.pop, 1)) (hva : va.category = 1) (kk : xG Γ Ω nL Q (pc + 1) lv (st) h sz k n) : xG Γ Ω nL Q (pc) lv (va :: st) h sz k n := by
  obtain ⟨p, l, e, R, s, m, args, below, meth, c⟩ := Γ
  obtain ⟨hx, hb, hml, hown, hts, hK, hO, hV, hbs, hlk, hnm, hrt, hRm⟩ := X
  intro H locs ls hz hR hS hl
  exact lv_pop hx hb d hva (kk H locs ls hz hR hS hl)
theorem xr_if_eq (X : xX Γ Ω cc nL own nm ret rf rl rc rs) {x : Int32} {off : Int} {tgt : Nat} (d : decode cc pc = .ok (.ifCond .eq off, 3)) (ht : (pc : Int) + off = (tgt : Int)) (kt : x = 0 → xG Γ Ω nL Q (tgt) lv (st) h sz k n) (kf : ¬ x = 0 → xG Γ Ω nL Q (pc + 3) lv (st) h sz k n) : xG Γ Ω nL Q (pc) lv (.int x :: st) h sz k n := by
  obtain ⟨p, l, e, R, s, m, args, below, meth, c⟩ := Γ
  obtain ⟨hx, hb, hml, hown, hts, hK, hO, hV, hbs, hlk, hnm, hrt, hRm⟩ := X
  intro H locs ls hz hR hS hl
  exact lv_if_eq hx hb d ht (fun q => kt q H locs ls hz hR hS hl) (fun q => kf q H locs ls hz hR hS hl)
theorem xr_icmp_eq (X : xX Γ Ω cc nL own nm ret rf rl rc rs) {x y : Int32} {off : Int} {tgt : Nat} (d : decode cc pc = .ok (.if_icmp .eq off, 3)) (ht : (pc : Int) + off = (tgt : Int)) (kt : x = y → xG Γ Ω nL Q (tgt) lv (st) h sz k n) (kf : ¬ x = y → xG Γ Ω nL Q (pc + 3) lv (st) h sz k n) : xG Γ Ω nL Q (pc) lv (.int y :: .int x :: st) h sz k n := by
  obtain ⟨p, l, e, R, s, m, args, below, meth, c⟩ := Γ
  obtain ⟨hx, hb, hml, hown, hts, hK, hO, hV, hbs, hlk, hnm, hrt, hRm⟩ := X
  intro H locs ls hz hR hS hl
  exact lv_icmp_eq hx hb d ht (fun q => kt q H locs ls hz hR hS hl) (fun q => kf q H locs ls hz hR hS hl)
theorem xr_if_ne (X : xX Γ Ω cc nL own nm ret rf rl rc rs) {x : Int32} {off : Int} {tgt : Nat} (d : decode cc pc = .ok (.ifCond .ne off, 3)) (ht : (pc : Int) + off = (tgt : Int)) (kt : ¬ x = 0 → xG Γ Ω nL Q (tgt) lv (st) h sz k n) (kf : x = 0 → xG Γ Ω nL Q (pc + 3) lv (st) h sz k n) : xG Γ Ω nL Q (pc) lv (.int x :: st) h sz k n := by
  obtain ⟨p, l, e, R, s, m, args, below, meth, c⟩ := Γ
  obtain ⟨hx, hb, hml, hown, hts, hK, hO, hV, hbs, hlk, hnm, hrt, hRm⟩ := X
  intro H locs ls hz hR hS hl
  exact lv_if_ne hx hb d ht (fun q => kt q H locs ls hz hR hS hl) (fun q => kf q H locs ls hz hR hS hl)
theorem xr_icmp_ne (X : xX Γ Ω cc nL own nm ret rf rl rc rs) {x y : Int32} {off : Int} {tgt : Nat} (d : decode cc pc = .ok (.if_icmp .ne off, 3)) (ht : (pc : Int) + off = (tgt : Int)) (kt : ¬ x = y → xG Γ Ω nL Q (tgt) lv (st) h sz k n) (kf : x = y → xG Γ Ω nL Q (pc + 3) lv (st) h sz k n) : xG Γ Ω nL Q (pc) lv (.int y :: .int x :: st) h sz k n := by
  obtain ⟨p, l, e, R, s, m, args, below, meth, c⟩ := Γ
  obtain ⟨hx, hb, hml, hown, hts, hK, hO, hV, hbs, hlk, hnm, hrt, hRm⟩ := X
  intro H locs ls hz hR hS hl
  exact lv_icmp_ne hx hb d ht (fun q => kt q H locs ls hz hR hS hl) (fun q => kf q H locs ls hz hR hS hl)
theorem xr_if_lt (X : xX Γ Ω cc nL own nm ret rf rl rc rs) {x : Int32} {off : Int} {tgt : Nat} (d : decode cc pc = .ok (.ifCond .lt off, 3)) (ht : (pc : Int) + off = (tgt : Int)) (kt : x < 0 → xG Γ Ω nL Q (tgt) lv (st) h sz k n) (kf : ¬ x < 0 → xG Γ Ω nL Q (pc + 3) lv (st) h sz k n) : xG Γ Ω nL Q (pc) lv (.int x :: st) h sz k n := by
  obtain ⟨p, l, e, R, s, m, args, below, meth, c⟩ := Γ
  obtain ⟨hx, hb, hml, hown, hts, hK, hO, hV, hbs, hlk, hnm, hrt, hRm⟩ := X
  intro H locs ls hz hR hS hl
  exact lv_if_lt hx hb d ht (fun q => kt q H locs ls hz hR hS hl) (fun q => kf q H locs ls hz hR hS hl)
theorem xr_icmp_lt (X : xX Γ Ω cc nL own nm ret rf rl rc rs) {x y : Int32} {off : Int} {tgt : Nat} (d : decode cc pc = .ok (.if_icmp .lt off, 3)) (ht : (pc : Int) + off = (tgt : Int)) (kt : x < y → xG Γ Ω nL Q (tgt) lv (st) h sz k n) (kf : ¬ x < y → xG Γ Ω nL Q (pc + 3) lv (st) h sz k n) : xG Γ Ω nL Q (pc) lv (.int y :: .int x :: st) h sz k n := by
  obtain ⟨p, l, e, R, s, m, args, below, meth, c⟩ := Γ
  obtain ⟨hx, hb, hml, hown, hts, hK, hO, hV, hbs, hlk, hnm, hrt, hRm⟩ := X
  intro H locs ls hz hR hS hl
  exact lv_icmp_lt hx hb d ht (fun q => kt q H locs ls hz hR hS hl) (fun q => kf q H locs ls hz hR hS hl)
theorem xr_if_ge (X : xX Γ Ω cc nL own nm ret rf rl rc rs) {x : Int32} {off : Int} {tgt : Nat} (d : decode cc pc = .ok (.ifCond .ge off, 3)) (ht : (pc : Int) + off = (tgt : Int)) (kt : 0 ≤ x → xG Γ Ω nL Q (tgt) lv (st) h sz k n) (kf : ¬ 0 ≤ x → xG Γ Ω nL Q (pc + 3) lv (st) h sz k n) : xG Γ Ω nL Q (pc) lv (.int x :: st) h sz k n := by
  obtain ⟨p, l, e, R, s, m, args, below, meth, c⟩ := Γ
  obtain ⟨hx, hb, hml, hown, hts, hK, hO, hV, hbs, hlk, hnm, hrt, hRm⟩ := X
  intro H locs ls hz hR hS hl
  exact lv_if_ge hx hb d ht (fun q => kt q H locs ls hz hR hS hl) (fun q => kf q H locs ls hz hR hS hl)
theorem xr_icmp_ge (X : xX Γ Ω cc nL own nm ret rf rl rc rs) {x y : Int32} {off : Int} {tgt : Nat} (d : decode cc pc = .ok (.if_icmp .ge off, 3)) (ht : (pc : Int) + off = (tgt : Int)) (kt : y ≤ x → xG Γ Ω nL Q (tgt) lv (st) h sz k n) (kf : ¬ y ≤ x → xG Γ Ω nL Q (pc + 3) lv (st) h sz k n) : xG Γ Ω nL Q (pc) lv (.int y :: .int x :: st) h sz k n := by
  obtain ⟨p, l, e, R, s, m, args, below, meth, c⟩ := Γ
  obtain ⟨hx, hb, hml, hown, hts, hK, hO, hV, hbs, hlk, hnm, hrt, hRm⟩ := X
  intro H locs ls hz hR hS hl
  exact lv_icmp_ge hx hb d ht (fun q => kt q H locs ls hz hR hS hl) (fun q => kf q H locs ls hz hR hS hl)
theorem xr_if_gt (X : xX Γ Ω cc nL own nm ret rf rl rc rs) {x : Int32} {off : Int} {tgt : Nat} (d : decode cc pc = .ok (.ifCond .gt off, 3)) (ht : (pc : Int) + off = (tgt : Int)) (kt : 0 < x → xG Γ Ω nL Q (tgt) lv (st) h sz k n) (kf : ¬ 0 < x → xG Γ Ω nL Q (pc + 3) lv (st) h sz k n) : xG Γ Ω nL Q (pc) lv (.int x :: st) h sz k n := by
  obtain ⟨p, l, e, R, s, m, args, below, meth, c⟩ := Γ
  obtain ⟨hx, hb, hml, hown, hts, hK, hO, hV, hbs, hlk, hnm, hrt, hRm⟩ := X
  intro H locs ls hz hR hS hl
  exact lv_if_gt hx hb d ht (fun q => kt q H locs ls hz hR hS hl) (fun q => kf q H locs ls hz hR hS hl)
theorem xr_icmp_gt (X : xX Γ Ω cc nL own nm ret rf rl rc rs) {x y : Int32} {off : Int} {tgt : Nat} (d : decode cc pc = .ok (.if_icmp .gt off, 3)) (ht : (pc : Int) + off = (tgt : Int)) (kt : y < x → xG Γ Ω nL Q (tgt) lv (st) h sz k n) (kf : ¬ y < x → xG Γ Ω nL Q (pc + 3) lv (st) h sz k n) : xG Γ Ω nL Q (pc) lv (.int y :: .int x :: st) h sz k n := by
  obtain ⟨p, l, e, R, s, m, args, below, meth, c⟩ := Γ
  obtain ⟨hx, hb, hml, hown, hts, hK, hO, hV, hbs, hlk, hnm, hrt, hRm⟩ := X
  intro H locs ls hz hR hS hl
  exact lv_icmp_gt hx hb d ht (fun q => kt q H locs ls hz hR hS hl) (fun q => kf q H locs ls hz hR hS hl)
theorem xr_if_le (X : xX Γ Ω cc nL own nm ret rf rl rc rs) {x : Int32} {off : Int} {tgt : Nat} (d : decode cc pc = .ok (.ifCond .le off, 3)) (ht : (pc : Int) + off = (tgt : Int)) (kt : x ≤ 0 → xG Γ Ω nL Q (tgt) lv (st) h sz k n) (kf : ¬ x ≤ 0 → xG Γ Ω nL Q (pc + 3) lv (st) h sz k n) : xG Γ Ω nL Q (pc) lv (.int x :: st) h sz k n := by
  obtain ⟨p, l, e, R, s, m, args, below, meth, c⟩ := Γ
  obtain ⟨hx, hb, hml, hown, hts, hK, hO, hV, hbs, hlk, hnm, hrt, hRm⟩ := X
  intro H locs ls hz hR hS hl
  exact lv_if_le hx hb d ht (fun q => kt q H locs ls hz hR hS hl) (fun q => kf q H locs ls hz hR hS hl)
theorem xr_icmp_le (X : xX Γ Ω cc nL own nm ret rf rl rc rs) {x y : Int32} {off : Int} {tgt : Nat} (d : decode cc pc = .ok (.if_icmp .le off, 3)) (ht : (pc : Int) + off = (tgt : Int)) (kt : x ≤ y → xG Γ Ω nL Q (tgt) lv (st) h sz k n) (kf : ¬ x ≤ y → xG Γ Ω nL Q (pc + 3) lv (st) h sz k n) : xG Γ Ω nL Q (pc) lv (.int y :: .int x :: st) h sz k n := by
  obtain ⟨p, l, e, R, s, m, args, below, meth, c⟩ := Γ
  obtain ⟨hx, hb, hml, hown, hts, hK, hO, hV, hbs, hlk, hnm, hrt, hRm⟩ := X
  intro H locs ls hz hR hS hl
  exact lv_icmp_le hx hb d ht (fun q => kt q H locs ls hz hR hS hl) (fun q => kf q H locs ls hz hR hS hl)
theorem xr_goto (X : xX Γ Ω cc nL own nm ret rf rl rc rs) {off : Int} {tgt : Nat} (d : decode cc pc = .ok (.goto off, 3)) (ht : (pc : Int) + off = (tgt : Int)) (kk : xG Γ Ω nL Q (tgt) lv (st) h sz k n) : xG Γ Ω nL Q (pc) lv (st) h sz k n := by
  obtain ⟨p, l, e, R, s, m, args, below, meth, c⟩ := Γ
  obtain ⟨hx, hb, hml, hown, hts, hK, hO, hV, hbs, hlk, hnm, hrt, hRm⟩ := X
  intro H locs ls hz hR hS hl
  exact lv_goto hx hb d ht (kk H locs ls hz hR hS hl)
theorem xr_ifnonnull (X : xX Γ Ω cc nL own nm ret rf rl rc rs) {x : Nat} {off : Int} {tgt : Nat} (d : decode cc pc = .ok (.ifnonnull off, 3)) (ht : (pc : Int) + off = (tgt : Int)) (kk : xG Γ Ω nL Q (tgt) lv (st) h sz k n) : xG Γ Ω nL Q (pc) lv (.ref x :: st) h sz k n := by
  obtain ⟨p, l, e, R, s, m, args, below, meth, c⟩ := Γ
  obtain ⟨hx, hb, hml, hown, hts, hK, hO, hV, hbs, hlk, hnm, hrt, hRm⟩ := X
  intro H locs ls hz hR hS hl
  exact lv_ifnonnull hx hb d ht (kk H locs ls hz hR hS hl)
theorem xr_ifnull (X : xX Γ Ω cc nL own nm ret rf rl rc rs) {x : Nat} {off : Int} (d : decode cc pc = .ok (.ifnull off, 3)) (kk : xG Γ Ω nL Q (pc + 3) lv (st) h sz k n) : xG Γ Ω nL Q (pc) lv (.ref x :: st) h sz k n := by
  obtain ⟨p, l, e, R, s, m, args, below, meth, c⟩ := Γ
  obtain ⟨hx, hb, hml, hown, hts, hK, hO, hV, hbs, hlk, hnm, hrt, hRm⟩ := X
  intro H locs ls hz hR hS hl
  exact lv_ifnull hx hb d (kk H locs ls hz hR hS hl)
theorem xr_ifnullN (X : xX Γ Ω cc nL own nm ret rf rl rc rs) {off : Int} {tgt : Nat} (d : decode cc pc = .ok (.ifnull off, 3)) (ht : (pc : Int) + off = (tgt : Int)) (kk : xG Γ Ω nL Q (tgt) lv (st) h sz k n) : xG Γ Ω nL Q (pc) lv (.null :: st) h sz k n := by
  obtain ⟨p, l, e, R, s, m, args, below, meth, c⟩ := Γ
  obtain ⟨hx, hb, hml, hown, hts, hK, hO, hV, hbs, hlk, hnm, hrt, hRm⟩ := X
  intro H locs ls hz hR hS hl
  exact lv_ifnullN hx hb d ht (kk H locs ls hz hR hS hl)
theorem xr_ifnonnullN (X : xX Γ Ω cc nL own nm ret rf rl rc rs) {off : Int} (d : decode cc pc = .ok (.ifnonnull off, 3)) (kk : xG Γ Ω nL Q (pc + 3) lv (st) h sz k n) : xG Γ Ω nL Q (pc) lv (.null :: st) h sz k n := by
  obtain ⟨p, l, e, R, s, m, args, below, meth, c⟩ := Γ
  obtain ⟨hx, hb, hml, hown, hts, hK, hO, hV, hbs, hlk, hnm, hrt, hRm⟩ := X
  intro H locs ls hz hR hS hl
  exact lv_ifnonnullN hx hb d (kk H locs ls hz hR hS hl)
theorem xr_lookup (X : xX Γ Ω cc nL own nm ret rf rl rc rs) {dflt : Int} {ps : Array (Int × Int)} {len : Nat} {x : Int32} {off : Int} {tgt : Nat} (d : decode cc pc = .ok (.lookupswitch dflt ps, len)) (hp : (ps.toList.zip (ps.toList.drop 1)).all (fun (a, next) => a.1 < next.1) = true) (ho : Op.lookupswitch.offset ps.toList dflt x.toInt = off) (ht : (pc : Int) + off = (tgt : Int)) (kk : xG Γ Ω nL Q (tgt) lv (st) h sz k n) : xG Γ Ω nL Q (pc) lv (.int x :: st) h sz k n := by
  obtain ⟨p, l, e, R, s, m, args, below, meth, c⟩ := Γ
  obtain ⟨hx, hb, hml, hown, hts, hK, hO, hV, hbs, hlk, hnm, hrt, hRm⟩ := X
  intro H locs ls hz hR hS hl
  exact lv_lookup hx hb d hp ho ht (kk H locs ls hz hR hS hl)
theorem xr_tableOut (X : xX Γ Ω cc nL own nm ret rf rl rc rs) {dflt lo hi : Int} {offs : Array Int} {len : Nat} {x : Int32} {tgt : Nat} (d : decode cc pc = .ok (.tableswitch dflt lo hi offs, len)) (hh : x.toInt < lo ∨ hi < x.toInt) (ht : (pc : Int) + dflt = (tgt : Int)) (kk : xG Γ Ω nL Q (tgt) lv (st) h sz k n) : xG Γ Ω nL Q (pc) lv (.int x :: st) h sz k n := by
  obtain ⟨p, l, e, R, s, m, args, below, meth, c⟩ := Γ
  obtain ⟨hx, hb, hml, hown, hts, hK, hO, hV, hbs, hlk, hnm, hrt, hRm⟩ := X
  intro H locs ls hz hR hS hl
  exact lv_tableOut hx hb d hh ht (kk H locs ls hz hR hS hl)
theorem xr_tableIn (X : xX Γ Ω cc nL own nm ret rf rl rc rs) {dflt lo hi : Int} {offs : Array Int} {len : Nat} {x : Int32} {off : Int} {tgt : Nat} (d : decode cc pc = .ok (.tableswitch dflt lo hi offs, len)) (h1 : ¬ x.toInt < lo) (h2 : ¬ hi < x.toInt) (ho : offs[(x.toInt - lo).toNat]? = some off) (ht : (pc : Int) + off = (tgt : Int)) (kk : xG Γ Ω nL Q (tgt) lv (st) h sz k n) : xG Γ Ω nL Q (pc) lv (.int x :: st) h sz k n := by
  obtain ⟨p, l, e, R, s, m, args, below, meth, c⟩ := Γ
  obtain ⟨hx, hb, hml, hown, hts, hK, hO, hV, hbs, hlk, hnm, hrt, hRm⟩ := X
  intro H locs ls hz hR hS hl
  exact lv_tableIn hx hb d h1 h2 ho ht (kk H locs ls hz hR hS hl)
theorem xr_locs {lv' : List (Nat × Value)} (ks : List Nat) (hk : lv_pick lv ks = lv') (kk : xG Γ Ω nL Q (pc) lv' (st) h sz k n) : xG Γ Ω nL Q (pc) lv (st) h sz k n := by
  obtain ⟨p, l, e, R, s, m, args, below, meth, c⟩ := Γ
  exact fun H locs ls hz hR hS hl => kk H locs ls hz hR hS (lv_sub hl ks hk)
theorem xr_heap {h' : xH} (e : h = h') (kk : xG Γ Ω nL Q (pc) lv (st) h' sz k n) : xG Γ Ω nL Q (pc) lv (st) h sz k n := e ▸ kk
theorem xr_wid {k2 n2 : Nat} (h1 : k ≤ k2) (h2 : n ≤ n2) (kk : xG Γ Ω nL Q (pc) lv (st) h sz k2 n2) : xG Γ Ω nL Q (pc) lv (st) h sz k n := by
  obtain ⟨p, l, e, R, s, m, args, below, meth, c⟩ := Γ
  exact fun H locs ls hz hR hS hl => W.widen h1 h2 (kk H locs ls hz hR hS hl)
theorem xr_sz (kk : ∀ z : Nat, z = sz → Ω.2.1 ≤ z → (∀ (a : Nat) (e : xE), h a = some e → Ω.2.1 ≤ a ∧ a < z) → xG Γ Ω nL Q (pc) lv (st) h z k n) (X : xX Γ Ω cc nL own nm ret rf rl rc rs) : xG Γ Ω nL Q (pc) lv (st) h sz k n := by
  obtain ⟨p, l, e, R, s, m, args, below, meth, c⟩ := Γ
  obtain ⟨hx, hb, hml, hown, hts, hK, hO, hV, hbs, hlk, hnm, hrt, hRm⟩ := X
  intro H locs ls hz hR hS hl
  exact kk sz rfl (by have := hS.1; omega) (fun a e q => ⟨(hR a e q).1, by rw [← hz]; exact hR.lt q⟩) H locs ls hz hR hS hl
/-- a field by its place: class ci of vwCl, field kf -/
def xF (own : String) (index ci kf : Nat) : Prop := ∃ (C : String) (T : u_T) (N : Nat) (ref : String), vwCl[ci]? = some (C, T, N) ∧ (∀ w ∈ u_ws C T N, w ∈ x_big) ∧ kf < N ∧ Cond.fieldLink own index ref (T kf).2.1 (T kf).2.2.1 ∈ x_big ∧ (ref = (T kf).1 ∨ Cond.sameField ref (T kf).1 (T kf).2.1 (T kf).2.2.1 ∈ x_big)
theorem xF.same {s : State} {args : Array Value} {ref o n d : String} (hts : ∀ w ∈ x_big, w.before args s = true) (hq : ref = o ∨ Cond.sameField ref o n d ∈ x_big) : ∀ x, s.fieldFound? o n d = some x → s.fieldFound? ref n d = some x := by
  intro x hx
  rcases hq with e | e
  · rw [e]; exact hx
  · exact u_same (hts _ e) x hx
theorem xr_get (X : xX Γ Ω cc nL own nm ret rf rl rc rs) {index ci kf a : Nat} {fs : List Value} {v : Value} (hF : xF own index ci kf) (ha : h a = some (.inr (ci, fs))) (hv : fs[kf]? = some v) (d : decode cc pc = .ok (.getfield index, 3)) (kk : xG Γ Ω nL Q (pc + 3) lv (v :: st) h sz k n) : xG Γ Ω nL Q (pc) lv (.ref a :: st) h sz k n := by
  obtain ⟨p, l, e, R, s, m, args, below, meth, c⟩ := Γ
  obtain ⟨hx, hb, hml, hown, hts, hK, hO, hV, hbs, hlk, hnm, hrt, hRm⟩ := X
  intro H locs ls hz hR hS hl
  obtain ⟨C, T, N, ref, hc, hin, hk, hlink, hq⟩ := hF
  have hP : va_P Ω.1 vwCl [(a, .inr (ci, fs))] H := fun j q hj => by
    have h0 : j < 1 := (List.getElem?_eq_some_iff.mp hj).1
    rw [show j = 0 by omega] at hj
    cases hj
    exact (hR a _ ha).2
  exact va_get (D := Ω.1) (C := C) (T := T) (N := N) (ref := ref) hx hb hts hin hown hK hP 0 rfl hc kf hk (hts _ hlink) (xF.same hts hq) hv d (kk H locs ls hz hR hS hl)
/-- a field that is written: not final, or final in a constructor of its own class; its type takes v -/
def xFw (own nm : String) (index ci kf : Nat) (ty : FieldType) : Prop := ∃ (C : String) (T : u_T) (N : Nat) (ref : String) (tys : Nat → FieldType), vwCl[ci]? = some (C, T, N) ∧ (∀ w ∈ u_ws C T N, w ∈ x_big) ∧ kf < N ∧ Cond.fieldLink own index ref (T kf).2.1 (T kf).2.2.1 ∈ x_big ∧ (ref = (T kf).1 ∨ Cond.sameField ref (T kf).1 (T kf).2.1 (T kf).2.2.1 ∈ x_big) ∧ (∀ k, k < N → parseFieldDescriptor (T k).2.2.1 = some (tys k)) ∧ (∀ a, a < N → ∀ b, b < N → a ≠ b → (T a).2.1 ≠ (T b).2.1) ∧ parseFieldDescriptor (T kf).2.2.1 = some ty ∧ ((T kf).2.2.2 = false ∨ ((T kf).2.2.2 = true ∧ nm = "<init>" ∧ (T kf).1 = own))
theorem xr_put (X : xX Γ Ω cc nL own nm ret rf rl rc rs) {index ci kf a : Nat} {fs fs' : List Value} {v : Value} {ty : FieldType} (hF : xFw own nm index ci kf ty) (ha : h a = some (.inr (ci, fs))) (hn : narrow ty v = v) (hfit : fits ty v = true) (hlen : Nat.ble (kf + 1) fs.length = true) (hfs : fs.set kf v = fs') (d : decode cc pc = .ok (.putfield index, 3)) (kk : xG Γ Ω nL Q (pc + 3) lv (st) (xu h a (.inr (ci, fs'))) sz k n) : xG Γ Ω nL Q (pc) lv (v :: .ref a :: st) h sz k n := by
  obtain ⟨p, l, e, R, s, m, args, below, meth, c⟩ := Γ
  obtain ⟨hx, hb, hml, hown, hts, hK, hO, hV, hbs, hlk, hnm, hrt, hRm⟩ := X
  intro H locs ls hz hR hS hl
  subst hfs
  obtain ⟨C, T, N, ref, tys, hc, hin, hk, hlink, hq, hty, hnmm, hd, hfin⟩ := hF
  have hP : va_P Ω.1 vwCl [(a, .inr (ci, fs))] H := fun j q hj => by
    have h0 : j < 1 := (List.getElem?_eq_some_iff.mp hj).1
    rw [show j = 0 by omega] at hj
    cases hj
    exact (hR a _ ha).2
  have hap := va_apart (D := Ω.1) (own := own) hts hin tys hty hnmm hK hc
  obtain ⟨r, h1, cell, q1, q2, q3, q4⟩ := (hR a _ ha).2
  have hr : r = (C, T, N) := Option.some.inj (h1.symm.trans hc)
  subst hr
  obtain ⟨hS2, hfc, kC, hkC, hkind⟩ := hK.1 ci _ hc
  obtain ⟨cf, kf2, fi, f, hi, hsl⟩ := hS2 kf hk
  have hst := (u_facts hfc hkC (u_lays hts hin hk) hi).1
  have hsame := xF.same hts hq (s := s) (args := args)
  have key : ∀ H1 : Heap, H1[a]? = some (cell.setSlot f.slot v) → H1.size = H.size → (∀ q, q ≠ a → H1[q]? = H[q]?) → W p l e R s m args below meth c H1 (locs ++ [⟨a, f.slot⟩]) k n Q (F0 m (pc + 3) ls st) := by
    intro H1 e1 e2 e3
    refine kk H1 _ ls (e2.trans hz) (hR.put (hR a _ ha).1 ⟨_, hc, ?_⟩ e3) (hS.put e2 e3 (hR a _ ha).1) hl
    rw [hsl] at e1
    exact t_OB.to (V := updV (vp_V fs) kf v) ⟨_, e1, q2, q3, t_set q4 hap hk v⟩ (fun j _ => vp_updV_set (Nat.le_of_ble_eq_true hlen) v j)
  rcases hfin with hfin | ⟨hfin, hin2, hdecl⟩
  · have hlay := hts _ (hin _ (u_in_lay hk))
    unfold u_lay at hlay
    rw [if_neg (by rw [hfin]; decide)] at hlay
    have h6 := u_store hfc hkC hkind hlay hi hd hn hfit
    exact W.putK hx hb (f := f) ⟨hown, hts _ hlink, ⟨_, _, _, hsame _ hi⟩, hst⟩ (by rw [q2]; exact h6) q1 q3 (by rw [hsl]; exact k2_hasslot (q4 kf hk)) rfl rfl d key
  · have hlay := hts _ (hin _ (u_in_lay hk))
    unfold u_lay at hlay
    rw [if_pos hfin] at hlay
    have hcf : m.cls = cf := by
      obtain ⟨_, _, c', _, _, _, -, -, hf', -, -, -, hown2, -⟩ := Cond.laysFinal_spec hlay
      have e1 : c' = cf := by have := hi.symm.trans hf'; simp at this; exact this.1.symm
      rw [hdecl] at hown2
      rw [← e1]; exact Option.some.inj (hown.symm.trans hown2)
    have h6 := u_fits hfc hkC hkind (Or.inr hlay) hi hd hn hfit
    exact W.putFinK hx hb hown (hts _ hlink) (hsame _ hi) hst hcf (hnm.trans hin2) (by rw [q2]; exact h6) q1 q3 (by rw [hsl]; exact k2_hasslot (q4 kf hk)) rfl rfl d key
/-- a place of an array: the index i is the number j, and lies in it -/
def xI (i : Int32) (j N : Nat) : Prop := ¬ i < 0 ∧ i.toNatClampNeg = j ∧ j < N
theorem xI_n {j N : Nat} (hj : j < N) (hN : N < 2 ^ 31) : xI (nI j) j N := ⟨nI_pos (by omega), nI_clamp (by omega), hj⟩
theorem xI_e {i : Int32} {j N : Nat} (e : i = nI j) (hj : j < N) (hN : N < 2 ^ 31) : xI i j N := e ▸ xI_n hj hN
theorem xI_v {i : Int32} {N : Nat} (h0 : ¬ i < 0) (h1 : i.toNatClampNeg < N) : xI i i.toNatClampNeg N := ⟨h0, rfl, h1⟩
theorem xI.in {i : Int32} {j N : Nat} (h : xI i j N) : vp_in i N := fun q => q.elim h.1 (fun q => by have := h.2.1; have := h.2.2; omega)
theorem xr_iald (X : xX Γ Ω cc nL own nm ret rf rl rc rs) {i : Int32} {j a N : Nat} {f : Nat → Int32} (ha : h a = some (.inl (.int, N, .inl f))) (hi : xI i j N) (d : decode cc pc = .ok (.iaload, 1)) (kk : xG Γ Ω nL Q (pc + 1) lv (.int (f j) :: st) h sz k n) : xG Γ Ω nL Q (pc) lv (.int i :: .ref a :: st) h sz k n := by
  obtain ⟨p, l, e, R, s, m, args, below, meth, c⟩ := Γ
  obtain ⟨hx, hb, hml, hown, hts, hK, hO, hV, hbs, hlk, hnm, hrt, hRm⟩ := X
  intro H locs ls hz hR hS hl
  obtain ⟨-, cA, hA, -, hc⟩ := hR a _ ha
  obtain rfl := hi.2.1
  exact W.iald (v := .int (f i.toNatClampNeg)) hx hb hc (hA N (fun j => .int (f j))) (fun q => by cases q) (by show ¬ (i < 0 ∨ (arrV _ _ _).slots.size ≤ _); rw [arrV_size]; exact hi.in) (by show (arrV _ _ _).slots[_]? = _; rw [arrV_read _ _ hi.2.2]) rfl rfl d (kk H locs ls hz hR hS hl)
theorem xr_bald (X : xX Γ Ω cc nL own nm ret rf rl rc rs) {i : Int32} {j a N : Nat} {f : Nat → Int32} (ha : h a = some (.inl (.byte, N, .inl f))) (hi : xI i j N) (d : decode cc pc = .ok (.baload, 1)) (kk : xG Γ Ω nL Q (pc + 1) lv (.int (f j) :: st) h sz k n) : xG Γ Ω nL Q (pc) lv (.int i :: .ref a :: st) h sz k n := by
  obtain ⟨p, l, e, R, s, m, args, below, meth, c⟩ := Γ
  obtain ⟨hx, hb, hml, hown, hts, hK, hO, hV, hbs, hlk, hnm, hrt, hRm⟩ := X
  intro H locs ls hz hR hS hl
  obtain ⟨-, cA, hA, -, hc⟩ := hR a _ ha
  obtain rfl := hi.2.1
  exact W.bald (v := .int (f i.toNatClampNeg)) hx hb hc (hA N (fun j => .int (f j))) (fun q => by cases q) (by show ¬ (i < 0 ∨ (arrV _ _ _).slots.size ≤ _); rw [arrV_size]; exact hi.in) (by show (arrV _ _ _).slots[_]? = _; rw [arrV_read _ _ hi.2.2]) rfl rfl d (kk H locs ls hz hR hS hl)
theorem xr_zald (X : xX Γ Ω cc nL own nm ret rf rl rc rs) {i : Int32} {j a N : Nat} {f : Nat → Int32} (ha : h a = some (.inl (.boolean, N, .inl f))) (hi : xI i j N) (d : decode cc pc = .ok (.baload, 1)) (kk : xG Γ Ω nL Q (pc + 1) lv (.int (f j) :: st) h sz k n) : xG Γ Ω nL Q (pc) lv (.int i :: .ref a :: st) h sz k n := by
  obtain ⟨p, l, e, R, s, m, args, below, meth, c⟩ := Γ
  obtain ⟨hx, hb, hml, hown, hts, hK, hO, hV, hbs, hlk, hnm, hrt, hRm⟩ := X
  intro H locs ls hz hR hS hl
  obtain ⟨-, cA, hA, -, hc⟩ := hR a _ ha
  obtain rfl := hi.2.1
  exact W.zald (v := .int (f i.toNatClampNeg)) hx hb hc (hA N (fun j => .int (f j))) (fun q => by cases q) (by show ¬ (i < 0 ∨ (arrV _ _ _).slots.size ≤ _); rw [arrV_size]; exact hi.in) (by show (arrV _ _ _).slots[_]? = _; rw [arrV_read _ _ hi.2.2]) rfl rfl d (kk H locs ls hz hR hS hl)
theorem xr_iast (X : xX Γ Ω cc nL own nm ret rf rl rc rs) {i x : Int32} {j a N : Nat} {f : Nat → Int32} (ha : h a = some (.inl (.int, N, .inl f))) (hi : xI i j N) (d : decode cc pc = .ok (.iastore, 1)) (kk : xG Γ Ω nL Q (pc + 1) lv (st) (xu h a (.inl (.int, N, .inl (upd f j x)))) sz k n) : xG Γ Ω nL Q (pc) lv (.int x :: .int i :: .ref a :: st) h sz k n := by
  obtain ⟨p, l, e, R, s, m, args, below, meth, c⟩ := Γ
  obtain ⟨hx, hb, hml, hown, hts, hK, hO, hV, hbs, hlk, hnm, hrt, hRm⟩ := X
  intro H locs ls hz hR hS hl
  obtain ⟨hba, cA, hA, hA2, hc⟩ := hR a _ ha
  obtain rfl := hi.2.1
  refine W.iast hx hb hc (hA N (fun j => .int (f j))) (fun q => by cases q) (by show ¬ (i < 0 ∨ (arrV _ _ _).slots.size ≤ _); rw [arrV_size]; exact hi.in) rfl rfl d fun H1 e z oq => ?_
  refine kk H1 _ ls (z.trans hz) (hR.put hba ⟨cA, hA, hA2, ?_⟩ oq) (hS.put z oq hba) hl
  show H1[a]? = some (vp_cell _ _)
  rw [e]
  rw [vp_cell_i, vp_cell_i, arrV_store]
  congr 2
  funext q
  by_cases hq : q = i.toNatClampNeg
  · subst hq
    simp [updV, upd, vp_nar]
    try rfl
  · simp [updV, upd, hq]
theorem xr_bast (X : xX Γ Ω cc nL own nm ret rf rl rc rs) {i x : Int32} {j a N : Nat} {f : Nat → Int32} (ha : h a = some (.inl (.byte, N, .inl f))) (hi : xI i j N) (d : decode cc pc = .ok (.bastore, 1)) (kk : xG Γ Ω nL Q (pc + 1) lv (st) (xu h a (.inl (.byte, N, .inl (upd f j (vp_nar .byte x))))) sz k n) : xG Γ Ω nL Q (pc) lv (.int x :: .int i :: .ref a :: st) h sz k n := by
  obtain ⟨p, l, e, R, s, m, args, below, meth, c⟩ := Γ
  obtain ⟨hx, hb, hml, hown, hts, hK, hO, hV, hbs, hlk, hnm, hrt, hRm⟩ := X
  intro H locs ls hz hR hS hl
  obtain ⟨hba, cA, hA, hA2, hc⟩ := hR a _ ha
  obtain rfl := hi.2.1
  refine W.bast hx hb hc (hA N (fun j => .int (f j))) (fun q => by cases q) (by show ¬ (i < 0 ∨ (arrV _ _ _).slots.size ≤ _); rw [arrV_size]; exact hi.in) rfl rfl d fun H1 e z oq => ?_
  refine kk H1 _ ls (z.trans hz) (hR.put hba ⟨cA, hA, hA2, ?_⟩ oq) (hS.put z oq hba) hl
  show H1[a]? = some (vp_cell _ _)
  rw [e]
  rw [vp_cell_i, vp_cell_i, arrV_store]
  congr 2
  funext q
  by_cases hq : q = i.toNatClampNeg
  · subst hq
    simp [updV, upd, vp_nar]
    try rfl
  · simp [updV, upd, hq]
theorem xr_zast (X : xX Γ Ω cc nL own nm ret rf rl rc rs) {i x : Int32} {j a N : Nat} {f : Nat → Int32} (ha : h a = some (.inl (.boolean, N, .inl f))) (hi : xI i j N) (d : decode cc pc = .ok (.bastore, 1)) (kk : xG Γ Ω nL Q (pc + 1) lv (st) (xu h a (.inl (.boolean, N, .inl (upd f j (vp_nar .boolean x))))) sz k n) : xG Γ Ω nL Q (pc) lv (.int x :: .int i :: .ref a :: st) h sz k n := by
  obtain ⟨p, l, e, R, s, m, args, below, meth, c⟩ := Γ
  obtain ⟨hx, hb, hml, hown, hts, hK, hO, hV, hbs, hlk, hnm, hrt, hRm⟩ := X
  intro H locs ls hz hR hS hl
  obtain ⟨hba, cA, hA, hA2, hc⟩ := hR a _ ha
  obtain rfl := hi.2.1
  refine W.zast hx hb hc (hA N (fun j => .int (f j))) (fun q => by cases q) (by show ¬ (i < 0 ∨ (arrV _ _ _).slots.size ≤ _); rw [arrV_size]; exact hi.in) rfl rfl d fun H1 e z oq => ?_
  refine kk H1 _ ls (z.trans hz) (hR.put hba ⟨cA, hA, hA2, ?_⟩ oq) (hS.put z oq hba) hl
  show H1[a]? = some (vp_cell _ _)
  rw [e]
  rw [vp_cell_i, vp_cell_i, arrV_store]
  congr 2
  funext q
  by_cases hq : q = i.toNatClampNeg
  · subst hq
    simp [updV, upd, vp_nar]
    try rfl
  · simp [updV, upd, hq]
theorem xr_alen (X : xX Γ Ω cc nL own nm ret rf rl rc rs) {a : Nat} {ty : FieldType} {x : vp_A} {v : Int32} (ha : h a = some (.inl (ty, x))) (hv : nI x.1 = v) (d : decode cc pc = .ok (.arraylength, 1)) (kk : xG Γ Ω nL Q (pc + 1) lv (.int v :: st) h sz k n) : xG Γ Ω nL Q (pc) lv (.ref a :: st) h sz k n := by
  obtain ⟨p, l, e, R, s, m, args, below, meth, c⟩ := Γ
  obtain ⟨hx, hb, hml, hown, hts, hK, hO, hV, hbs, hlk, hnm, hrt, hRm⟩ := X
  intro H locs ls hz hR hS hl
  obtain ⟨hba, cA, hA, hA2, hc⟩ := hR a _ ha
  subst hv
  have kk2 := kk H locs ls hz hR hS hl
  obtain ⟨n0, f | f | f | f | f⟩ := x
  · exact W.alen (n := Int32.ofNat n0) hx hb hc (hA n0 (fun j => .int (f j))) (by rw [vp_cell_i, arrV_size] <;> rfl) rfl rfl d kk2
  · exact W.alen (n := Int32.ofNat n0) hx hb hc (hA n0 (fun j => .long (f j))) (by rw [vp_cell_l, arrV_size] <;> rfl) rfl rfl d kk2
  · exact W.alen (n := Int32.ofNat n0) hx hb hc (hA n0 (fun j => .float (f j))) (by rw [vp_cell_f, arrV_size] <;> rfl) rfl rfl d kk2
  · exact W.alen (n := Int32.ofNat n0) hx hb hc (hA n0 (fun j => .double (f j))) (by rw [vp_cell_d, arrV_size] <;> rfl) rfl rfl d kk2
  · exact W.alen (n := Int32.ofNat n0) hx hb hc (hA n0 (fun j => va_rf (f j))) (by rw [vp_cell_q, arrV_size] <;> rfl) rfl rfl d kk2
theorem xr_aald (X : xX Γ Ω cc nL own nm ret rf rl rc rs) {i : Int32} {j a N : Nat} {ty : FieldType} {f : Nat → Option Nat} {v : Value} (ha : h a = some (.inl (ty, N, .inr (.inr (.inr (.inr f)))))) (hty : ty.isReference = true) (hi : xI i j N) (hv : va_rf (f j) = v) (d : decode cc pc = .ok (.aaload, 1)) (kk : xG Γ Ω nL Q (pc + 1) lv (v :: st) h sz k n) : xG Γ Ω nL Q (pc) lv (.int i :: .ref a :: st) h sz k n := by
  obtain ⟨p, l, e, R, s, m, args, below, meth, c⟩ := Γ
  obtain ⟨hx, hb, hml, hown, hts, hK, hO, hV, hbs, hlk, hnm, hrt, hRm⟩ := X
  intro H locs ls hz hR hS hl
  obtain ⟨-, cA, hA, -, hc⟩ := hR a _ ha
  obtain rfl := hi.2.1
  subst hv
  exact W.aald (v := va_rf (f i.toNatClampNeg)) (ty := ty) hx hb hc (hA N (fun j => va_rf (f j))) hty (fun q => by cases q) (by show ¬ (i < 0 ∨ (arrV _ _ _).slots.size ≤ _); rw [arrV_size]; exact hi.in) (by show (arrV _ _ _).slots[_]? = _; rw [arrV_read _ _ hi.2.2]) rfl rfl d (kk H locs ls hz hR hS hl)
theorem xr_new (X : xX Γ Ω cc nL own nm ret rf rl rc rs) {index ci N : Nat} {C : String} {T : u_T} {fs : List Value} (tys : Nat → FieldType) (hc : vwCl[ci]? = some (C, T, N)) (hin : ∀ w ∈ u_ws C T N, w ∈ x_big) (hty : ∀ k, k < N → parseFieldDescriptor (T k).2.2.1 = some (tys k)) (hcl : Cond.classLink own index C ∈ x_big) (hins : Cond.instantiable C N ∈ x_big) (hini : Cond.initialized C ∈ x_big) (hfs : (List.range N).map (fun j => defaultValue (tys j)) = fs) (hcells : Nat.ble (k + 1) rc = true) (hslots : Nat.ble (n + N) rs = true) (d : decode cc pc = .ok (.new index, 3)) (kk : xG Γ Ω nL Q (pc + 3) lv (.ref sz :: st) (xu h sz (.inr (ci, fs))) (sz + 1) (k + 1) (n + N)) : xG Γ Ω nL Q (pc) lv (st) h sz k n := by
  obtain ⟨p, l, e, R, s, m, args, below, meth, c⟩ := Γ
  obtain ⟨hx, hb, hml, hown, hts, hK, hO, hV, hbs, hlk, hnm, hrt, hRm⟩ := X
  intro H locs ls hz hR hS hl
  subst hRm
  subst hz
  have hKn := hK.1 ci _ hc
  refine W.newcK hx hb hown (hts _ hcl) (hts _ hins) (hts _ hini) rfl d (Nat.le_of_ble_eq_true hcells) (Nat.le_of_ble_eq_true hslots) hKn.2.1 rfl fun H1 kC hkC e1 z1 o1 => ?_
  refine kk H1 locs ls z1 (hR.new (Nat.le_trans hbs hS.1) ⟨_, hc, (u_born tys hts hin hKn hkC e1 hty).to ?_⟩ o1) ⟨Nat.le_trans hS.1 (by omega), fun x h1 h2 => (o1 x (Nat.lt_of_lt_of_le h1 hS.1)).trans (hS.2.1 x h1 h2), hS.2.2⟩ hl
  intro j hj
  rw [← hfs]
  simp [vp_V, hj]
theorem xr_newa_i (X : xX Γ Ω cc nL own nm ret rf rl rc rs) {i : Int32} {N : Nat} (harr : Cond.arrayClass .int ∈ x_big) (hi : i = nI N) (hN : Nat.ble N 100000 = true) (hcells : Nat.ble (k + 1) rc = true) (hslots : Nat.ble (n + N) rs = true) (d : decode cc pc = .ok (.newarray .int, 2)) (kk : xG Γ Ω nL Q (pc + 2) lv (.ref sz :: st) (xu h sz (.inl (.int, N, .inl (fun _ => 0)))) (sz + 1) (k + 1) (n + N)) : xG Γ Ω nL Q (pc) lv (.int i :: st) h sz k n := by
  obtain ⟨p, l, e, R, s, m, args, below, meth, c⟩ := Γ
  obtain ⟨hx, hb, hml, hown, hts, hK, hO, hV, hbs, hlk, hnm, hrt, hRm⟩ := X
  intro H locs ls hz hR hS hl
  subst hRm
  subst hz
  subst hi
  have hN' := Nat.le_of_ble_eq_true hN
  refine va_newaK (atype := .int) hx hb (hts _ harr) rfl d rfl (nI_pos (by omega)) (nI_clamp (by omega)) (by simp [newarray.typeOf, componentBytes]; omega) (Nat.le_of_ble_eq_true hcells) (Nat.le_of_ble_eq_true hslots) rfl fun H1 cA e1 z1 o1 hAr hNm => ?_
  exact kk H1 locs ls z1 (hR.new (Nat.le_trans hbs hS.1) ⟨cA, hAr, hNm, e1⟩ o1) ⟨Nat.le_trans hS.1 (by omega), fun x h1 h2 => (o1 x (Nat.lt_of_lt_of_le h1 hS.1)).trans (hS.2.1 x h1 h2), hS.2.2⟩ hl
theorem xr_newa_b (X : xX Γ Ω cc nL own nm ret rf rl rc rs) {i : Int32} {N : Nat} (harr : Cond.arrayClass .byte ∈ x_big) (hi : i = nI N) (hN : Nat.ble N 100000 = true) (hcells : Nat.ble (k + 1) rc = true) (hslots : Nat.ble (n + N) rs = true) (d : decode cc pc = .ok (.newarray .byte, 2)) (kk : xG Γ Ω nL Q (pc + 2) lv (.ref sz :: st) (xu h sz (.inl (.byte, N, .inl (fun _ => 0)))) (sz + 1) (k + 1) (n + N)) : xG Γ Ω nL Q (pc) lv (.int i :: st) h sz k n := by
  obtain ⟨p, l, e, R, s, m, args, below, meth, c⟩ := Γ
  obtain ⟨hx, hb, hml, hown, hts, hK, hO, hV, hbs, hlk, hnm, hrt, hRm⟩ := X
  intro H locs ls hz hR hS hl
  subst hRm
  subst hz
  subst hi
  have hN' := Nat.le_of_ble_eq_true hN
  refine va_newaK (atype := .byte) hx hb (hts _ harr) rfl d rfl (nI_pos (by omega)) (nI_clamp (by omega)) (by simp [newarray.typeOf, componentBytes]; omega) (Nat.le_of_ble_eq_true hcells) (Nat.le_of_ble_eq_true hslots) rfl fun H1 cA e1 z1 o1 hAr hNm => ?_
  exact kk H1 locs ls z1 (hR.new (Nat.le_trans hbs hS.1) ⟨cA, hAr, hNm, e1⟩ o1) ⟨Nat.le_trans hS.1 (by omega), fun x h1 h2 => (o1 x (Nat.lt_of_lt_of_le h1 hS.1)).trans (hS.2.1 x h1 h2), hS.2.2⟩ hl
theorem xr_newa_z (X : xX Γ Ω cc nL own nm ret rf rl rc rs) {i : Int32} {N : Nat} (harr : Cond.arrayClass .boolean ∈ x_big) (hi : i = nI N) (hN : Nat.ble N 100000 = true) (hcells : Nat.ble (k + 1) rc = true) (hslots : Nat.ble (n + N) rs = true) (d : decode cc pc = .ok (.newarray .boolean, 2)) (kk : xG Γ Ω nL Q (pc + 2) lv (.ref sz :: st) (xu h sz (.inl (.boolean, N, .inl (fun _ => 0)))) (sz + 1) (k + 1) (n + N)) : xG Γ Ω nL Q (pc) lv (.int i :: st) h sz k n := by
  obtain ⟨p, l, e, R, s, m, args, below, meth, c⟩ := Γ
  obtain ⟨hx, hb, hml, hown, hts, hK, hO, hV, hbs, hlk, hnm, hrt, hRm⟩ := X
  intro H locs ls hz hR hS hl
  subst hRm
  subst hz
  subst hi
  have hN' := Nat.le_of_ble_eq_true hN
  refine va_newaK (atype := .boolean) hx hb (hts _ harr) rfl d rfl (nI_pos (by omega)) (nI_clamp (by omega)) (by simp [newarray.typeOf, componentBytes]; omega) (Nat.le_of_ble_eq_true hcells) (Nat.le_of_ble_eq_true hslots) rfl fun H1 cA e1 z1 o1 hAr hNm => ?_
  exact kk H1 locs ls z1 (hR.new (Nat.le_trans hbs hS.1) ⟨cA, hAr, hNm, e1⟩ o1) ⟨Nat.le_trans hS.1 (by omega), fun x h1 h2 => (o1 x (Nat.lt_of_lt_of_le h1 hS.1)).trans (hS.2.1 x h1 h2), hS.2.2⟩ hl
theorem xr_anew (X : xX Γ Ω cc nL own nm ret rf rl rc rs) {C : String} {i : Int32} {index N : Nat} (hao : C ∈ x_ao) (hcl : Cond.classLink own index C ∈ x_big) (hi : i = nI N) (hN : Nat.ble N 100000 = true) (hcells : Nat.ble (k + 1) rc = true) (hslots : Nat.ble (n + N) rs = true) (d : decode cc pc = .ok (.anewarray index, 3)) (kk : xG Γ Ω nL Q (pc + 3) lv (.ref sz :: st) (xu h sz (.inl (.object C, N, .inr (.inr (.inr (.inr (fun _ => none))))))) (sz + 1) (k + 1) (n + N)) : xG Γ Ω nL Q (pc) lv (.int i :: st) h sz k n := by
  obtain ⟨p, l, e, R, s, m, args, below, meth, c⟩ := Γ
  obtain ⟨hx, hb, hml, hown, hts, hK, hO, hV, hbs, hlk, hnm, hrt, hRm⟩ := X
  intro H locs ls hz hR hS hl
  subst hRm
  subst hz
  subst hi
  have hN' := Nat.le_of_ble_eq_true hN
  have hcl' : (nI N).toNatClampNeg = N := nI_clamp (by omega)
  refine W.anew hx hb hown (hts _ hcl) (va_AO.use (hO.2.2.2.2.1 C hao)) rfl d rfl (nI_pos (by omega)) (by rw [hcl']; omega) (Nat.le_of_ble_eq_true hcells) (by rw [hcl']; exact Nat.le_of_ble_eq_true hslots) fun cA kA comp f1 f2 f3 f4 => ?_
  rw [hcl']
  generalize hH1 : H.push ({ cls := cA, slots := Array.replicate N .null, vm := .none } : Cell) = H1
  have z1 : H1.size = H.size + 1 := by rw [← hH1, Array.size_push]
  have e1 : H1[H.size]? = some (arrV cA N (fun _ => .null)) := by rw [← hH1, Array.getElem?_push_size, ← arrV_new]
  have o1 : ∀ q : Nat, q < H.size → H1[q]? = H[q]? := fun q hq => by rw [← hH1, Array.getElem?_push, if_neg (Nat.ne_of_lt hq)]
  have hAr : ArrOfT s cA (.object C) := fun N z => ⟨(fun k h => by cases h), kA, f2, comp, f3⟩
  exact kk H1 locs ls z1 (hR.new (Nat.le_trans hbs hS.1) ⟨cA, hAr, ⟨kA, comp, f2, f3, f4, f1⟩, e1⟩ o1) ⟨Nat.le_trans hS.1 (by omega), fun x h1 h2 => (o1 x (Nat.lt_of_lt_of_le h1 hS.1)).trans (hS.2.1 x h1 h2), hS.2.2⟩ hl
theorem xr_aast (X : xX Γ Ω cc nL own nm ret rf rl rc rs) {C : String} {i : Int32} {j a N v ci : Nat} {f : Nat → Option Nat} {vs : List Value} {r : vw_C} (ha : h a = some (.inl (.object C, N, .inr (.inr (.inr (.inr f)))))) (hv : h v = some (.inr (ci, vs))) (hc : vwCl[ci]? = some r) (hcast : r.1 = C ∨ (r.1, C) ∈ x_cast) (hi : xI i j N) (d : decode cc pc = .ok (.aastore, 1)) (kk : xG Γ Ω nL Q (pc + 1) lv (st) (xu h a (.inl (.object C, N, .inr (.inr (.inr (.inr (va_up f j (some v)))))))) sz k n) : xG Γ Ω nL Q (pc) lv (.ref v :: .int i :: .ref a :: st) h sz k n := by
  obtain ⟨p, l, e, R, s, m, args, below, meth, c⟩ := Γ
  obtain ⟨hx, hb, hml, hown, hts, hK, hO, hV, hbs, hlk, hnm, hrt, hRm⟩ := X
  intro H locs ls hz hR hS hl
  obtain ⟨hba, cA, hA, hA2, hce⟩ := hR a _ ha
  obtain ⟨-, r', hr', cellV, g1, g2, g3, -⟩ := hR v _ hv
  obtain rfl := hi.2.1
  obtain ⟨kA, comp, k1, k2, k3, k4⟩ := id hA2
  have hcls := (hK.1 ci r hc).2
  obtain ⟨kC, hkC, -⟩ := id hcls.2
  have hasg : s.vm.assignable cellV.cls comp = true := by
    rcases hcast with e | e
    · subst e
      have hcomp : comp = Ω.1.1 ci := Option.some.inj (k3.symm.trans hcls.1)
      subst hcomp
      rw [g2]
      exact va_assign hcls
    · obtain ⟨c0, t0, f1, f2, f3⟩ := Cond.castable_spec (va_Nw.use (A := args) rfl (hO.2.1 _ e))
      have e1 : comp = t0 := Option.some.inj (k3.symm.trans f2)
      have e2 : Ω.1.1 ci = c0 := Option.some.inj (hcls.1.symm.trans f1)
      rw [g2, e1, e2]
      exact f3
  obtain ⟨kcomp, hkcomp, -⟩ := Vm.findClass_spec k3
  refine W.aast hx hb hce (fun q h => by cases h) (fun h => by cases h) k1 k2 rfl hkcomp ⟨hi.1, by show _ < (arrV _ _ _).slots.size; rw [arrV_size]; exact hi.2.2⟩ g1 (fun q h => by rw [g3] at h; cases h) (by rw [g2]; exact hkC) hasg rfl rfl d fun H1 e z oq => ?_
  refine kk H1 _ ls (z.trans hz) (hR.put hba ⟨cA, hA, hA2, ?_⟩ oq) (hS.put z oq hba) hl
  show H1[a]? = some (vp_cell _ _)
  rw [e]
  rw [vp_cell_q, vp_cell_q, arrV_store]
  congr 2
  funext q
  by_cases hq : q = i.toNatClampNeg
  · subst hq
    simp [updV, va_up, va_rf]
  · simp [updV, va_up, hq]
theorem xr_aastN (X : xX Γ Ω cc nL own nm ret rf rl rc rs) {C : String} {i : Int32} {j a N : Nat} {f : Nat → Option Nat} (ha : h a = some (.inl (.object C, N, .inr (.inr (.inr (.inr f)))))) (hi : xI i j N) (d : decode cc pc = .ok (.aastore, 1)) (kk : xG Γ Ω nL Q (pc + 1) lv (st) (xu h a (.inl (.object C, N, .inr (.inr (.inr (.inr (va_up f j none))))))) sz k n) : xG Γ Ω nL Q (pc) lv (.null :: .int i :: .ref a :: st) h sz k n := by
  obtain ⟨p, l, e, R, s, m, args, below, meth, c⟩ := Γ
  obtain ⟨hx, hb, hml, hown, hts, hK, hO, hV, hbs, hlk, hnm, hrt, hRm⟩ := X
  intro H locs ls hz hR hS hl
  obtain ⟨hba, cA, hA, hA2, hce⟩ := hR a _ ha
  obtain rfl := hi.2.1
  refine va_WaastN (C := C) hx hb hce (hA N (fun j => va_rf (f j))) (fun h => by cases h) (by show ¬ (i < 0 ∨ (arrV _ _ _).slots.size ≤ _); rw [arrV_size]; exact hi.in) rfl rfl d fun H1 e z oq => ?_
  refine kk H1 _ ls (z.trans hz) (hR.put hba ⟨cA, hA, hA2, ?_⟩ oq) (hS.put z oq hba) hl
  show H1[a]? = some (vp_cell _ _)
  rw [e]
  rw [vp_cell_q, vp_cell_q, arrV_store]
  congr 2
  funext q
  by_cases hq : q = i.toNatClampNeg
  · subst hq
    simp [updV, va_up, va_rf]
  · simp [updV, va_up, hq]
theorem xrecv {Ω : xW} {s : State} {h : xH} {H : Heap} {a ci : Nat} {fs : List Value} {r : vw_C} (hK : va_K Ω.1 vwCl [] s) (hR : xR Ω s h H) (ha : h a = some (.inr (ci, fs))) (hc : vwCl[ci]? = some r) : ∃ cell : Cell, H[a]? = some cell ∧ cell.vm.isStatics = false ∧ s.vm.findClass r.1 = some cell.cls := by
  obtain ⟨-, r', h1, cell, g1, g2, g3, -⟩ := hR a _ ha
  exact ⟨cell, g1, by rw [g3]; rfl, by rw [g2]; exact (hK.1 ci r hc).2.1⟩
theorem xr_instY (X : xX Γ Ω cc nL own nm ret rf rl rc rs) {C nm2 : String} {index a ci : Nat} {fs : List Value} {r : vw_C} (ha : h a = some (.inr (ci, fs))) (hc : vwCl[ci]? = some r) (hC : r.1 = C) (hcl : Cond.classLink own index nm2 ∈ x_big) (hcast : C = nm2 ∨ (C, nm2) ∈ x_cast) (d : decode cc pc = .ok (.instanceof index, 3)) (kk : xG Γ Ω nL Q (pc + 3) lv (.int 1 :: st) h sz k n) : xG Γ Ω nL Q (pc) lv (.ref a :: st) h sz k n := by
  obtain ⟨p, l, e, R, s, m, args, below, meth, c⟩ := Γ
  obtain ⟨hx, hb, hml, hown, hts, hK, hO, hV, hbs, hlk, hnm, hrt, hRm⟩ := X
  intro H locs ls hz hR hS hl
  subst hC
  rcases hcast with e | e
  · subst e
    exact va_instS hx hb hown (hts _ hcl) (hK.1 ci r hc).2 (xrecv hK hR ha hc) d (kk H locs ls hz hR hS hl)
  · exact va_instY hx hb hown (hts _ hcl) (hO.2.1 _ e) (xrecv hK hR ha hc) d (kk H locs ls hz hR hS hl)
theorem xr_instN (X : xX Γ Ω cc nL own nm ret rf rl rc rs) {C nm2 : String} {index a ci : Nat} {fs : List Value} {r : vw_C} (ha : h a = some (.inr (ci, fs))) (hc : vwCl[ci]? = some r) (hC : r.1 = C) (hcl : Cond.classLink own index nm2 ∈ x_big) (hcast : (C, nm2) ∈ x_nc) (d : decode cc pc = .ok (.instanceof index, 3)) (kk : xG Γ Ω nL Q (pc + 3) lv (.int 0 :: st) h sz k n) : xG Γ Ω nL Q (pc) lv (.ref a :: st) h sz k n := by
  obtain ⟨p, l, e, R, s, m, args, below, meth, c⟩ := Γ
  obtain ⟨hx, hb, hml, hown, hts, hK, hO, hV, hbs, hlk, hnm, hrt, hRm⟩ := X
  intro H locs ls hz hR hS hl
  subst hC
  exact va_instNo hx hb hown (hts _ hcl) (hO.2.2.2.1 _ hcast) (xrecv hK hR ha hc) d (kk H locs ls hz hR hS hl)
theorem xr_castS (X : xX Γ Ω cc nL own nm ret rf rl rc rs) {C nm2 : String} {index a ci : Nat} {fs : List Value} {r : vw_C} (ha : h a = some (.inr (ci, fs))) (hc : vwCl[ci]? = some r) (hC : r.1 = C) (hcl : Cond.classLink own index nm2 ∈ x_big) (hcast : C = nm2) (d : decode cc pc = .ok (.checkcast index, 3)) (kk : xG Γ Ω nL Q (pc + 3) lv (.ref a :: st) h sz k n) : xG Γ Ω nL Q (pc) lv (.ref a :: st) h sz k n := by
  obtain ⟨p, l, e, R, s, m, args, below, meth, c⟩ := Γ
  obtain ⟨hx, hb, hml, hown, hts, hK, hO, hV, hbs, hlk, hnm, hrt, hRm⟩ := X
  intro H locs ls hz hR hS hl
  subst hC
  subst hcast
  exact va_castS hx hb hown (hts _ hcl) (hK.1 ci r hc).2 (xrecv hK hR ha hc) d (kk H locs ls hz hR hS hl)
theorem xr_instNull (X : xX Γ Ω cc nL own nm ret rf rl rc rs) {index : Nat} (d : decode cc pc = .ok (.instanceof index, 3)) (kk : xG Γ Ω nL Q (pc + 3) lv (.int 0 :: st) h sz k n) : xG Γ Ω nL Q (pc) lv (.null :: st) h sz k n := by
  obtain ⟨p, l, e, R, s, m, args, below, meth, c⟩ := Γ
  obtain ⟨hx, hb, hml, hown, hts, hK, hO, hV, hbs, hlk, hnm, hrt, hRm⟩ := X
  intro H locs ls hz hR hS hl
  exact lv_instN hx hb d (kk H locs ls hz hR hS hl)
theorem xr_objInit (X : xX Γ Ω cc nL own nm ret rf rl rc rs) {idx a : Nat} (hlink : Cond.methodLink own idx objectInit ∈ x_big) (hrf : Nat.ble 1 rf = true) (hrl : Nat.ble 20 rl = true) (hcat : Nat.ble (st.map fun v => v.category).sum 8 = true) (d : decode cc pc = .ok (.invokespecial idx, 3)) (kk : xG Γ Ω nL Q (pc + 3) lv (st) h sz k n) : xG Γ Ω nL Q (pc) lv (.ref a :: st) h sz k n := by
  obtain ⟨p, l, e, R, s, m, args, below, meth, c⟩ := Γ
  obtain ⟨hx, hb, hml, hown, hts, hK, hO, hV, hbs, hlk, hnm, hrt, hRm⟩ := X
  intro H locs ls hz hR hS hl
  subst hRm
  refine W.objInit hx hb hown (hts _ hlink) (hts _ xk_oi) (hts _ xk_oc) rfl (by rw [hml]; exact hl.1) rfl d (Nat.le_of_ble_eq_true hrf) ?_ (kk H locs ls hz hR hS hl)
  have h1 := Nat.le_of_ble_eq_true hrl
  have h2 := Nat.le_of_ble_eq_true hcat
  show 2 * 0 + (st.map fun v => v.category).sum + 12 ≤ rl
  omega
/-- a call's words: how the call site links to y, and y's own code -/
def xCw (y : MethodName) (cc : ByteArray) (maxL : Nat) (ret : Option FieldType) (np : Nat) : Prop := Cond.code y cc maxL ret ∈ x_big ∧ Cond.initialized y.cls ∈ x_big ∧ y.cls ≠ "java/lang/invoke/MethodHandle" ∧ y.cls ≠ "java/lang/invoke/VarHandle" ∧ (parseMethodDescriptor y.desc).map (fun d => d.parameters.length) = some np
theorem xPre.blind {Ω : xW} {av : List Value} {h : xH} {sz : Nat} : FrameBlind (xPre Ω av h sz) := fun a U g mk q => by
  obtain ⟨q0, q1, q2, q3, q4, q5, q6⟩ := q
  exact ⟨q0, q1, q2, xR.moved (u := U) (U := U.calling g mk a) (Vm.Alike.refl U.vm) q3, va_K.moved (u := U) (U := U.calling g mk a) (Vm.Alike.refl U.vm) q4, xO.same (u := U) (U := U.calling g mk a) rfl q5, xV.moved (u := U) (U := U.calling g mk a) (Vm.Alike.refl U.vm) q6⟩
theorem xPre.at {Ω : xW} {As : List Value} {h : xH} {sz : Nat} {s : State} {H : Heap} {locs : List Loc} (hz : H.size = sz) (hR : xR Ω s h H) (hS : va_S (fun q => Ω.2.1 ≤ q) s.heap H locs) (hK : va_K Ω.1 vwCl [] s) (hO : xO Ω s) (hV : xV Ω s s.heap) (hbs : Ω.2.1 ≤ s.heap.size) : ∀ U : State, U.heap = H → s.WarmedH U.vm → xPre Ω As h sz As.toArray U := fun U hU hW =>
  ⟨rfl, by rw [hU]; exact hz, by have := hS.1; omega, by rw [hU]; exact hR.moved hW.alike, va_K.moved hW.alike hK, hO.warm hW, by rw [hU]; exact (hV.kept hS.2.1).moved hW.alike⟩
theorem xRun {p : Program} {l : Launch} {e : Env} {R : Room} {s : State} {m : MethodId} {args : Array Value} {below : List Frame} {meth : Method} {c : Code} {H : Heap} {locs : List Loc} {cells slots mc ms : Nat} {Q : State → Prop} {pc : Nat} {ls : Array Slot} {st0 rest : List Value} {Ω : xW} {r : Option Value} {h' : xH} {sz' : Nat} {a : Array Value}
    (hr : va_Run p l e R s m args below meth c H locs cells slots mc ms (F0 m pc ls st0) rest (xPost Ω r h' sz' a) (fun q => Ω.2.1 ≤ q)) (hS : va_S (fun q => Ω.2.1 ≤ q) s.heap H locs)
    (kk : ∀ (H1 : Heap) (locs1 : List Loc), H1.size = sz' → xR Ω s h' H1 → va_S (fun q => Ω.2.1 ≤ q) s.heap H1 locs1 → W p l e R s m args below meth c H1 locs1 (cells + mc) (slots + ms) Q (F0 m (pc + 3) ls (r.toList ++ rest))) : W p l e R s m args below meth c H locs cells slots Q (F0 m pc ls st0) := by
  intro T hT X
  obtain ⟨v, st₀, t, T', L, h0, X', hL, e1, e2, ⟨hv, hz, hR, hf1, hf2⟩, st⟩ := hr T hT X
  cases hv
  rw [h0] at hf1 hf2
  have hal : t.vm.Alike s.vm := by
    have := X'.warmed.alike
    rw [e2] at this
    exact this.symm
  obtain ⟨t2, a1, b1⟩ := kk T'.heap (locs ++ L) (by rw [e1]; exact hz) (by rw [e1]; exact hR.moved hal)
    ⟨Nat.le_trans hS.1 (by rw [e1]; exact hf1), fun q h1 h2 => by rw [e1, hf2 q (Nat.lt_of_lt_of_le h1 hS.1) h2]; exact hS.2.1 q h1 h2, fun q hq => by
      rcases List.mem_append.mp hq with h | h
      · exact hS.2.2 q h
      · exact hL q h⟩ T' rfl X'
  exact ⟨t2, st t2 a1, b1⟩
theorem xr_callV (X : xX Γ Ω cc nL own nm ret rf rl rc rs) {y : MethodName} {cc' : ByteArray} {maxL np dd mc ms sz' index : Nat} {ret' : Option FieldType} {r : Option Value} {h' : xH} {rest : List Value} {a ci : Nat} {fs : List Value} {rv : vw_C} (ha : h a = some (.inr (ci, fs))) (hc : vwCl[ci]? = some rv) (hlk1 : Cond.methodLink own index y ∈ x_big) (hlk2 : Cond.instanceMethod y ∈ x_big) (hlk3 : Cond.selects rv.1 y y ∈ x_big) (hw : xCw y cc' maxL ret' np) (As : List Value) (hC : xC Γ.2.1 Ω y cc' maxL ret' dd mc ms (.ref a :: As) h sz r h' sz') (hn : As.length = np) (hst : st = As.reverse ++ .ref a :: rest) (hrf : Nat.ble (dd + 1) rf = true) (hrl : Nat.ble (19 + maxL + 35 * dd) rl = true) (hcat : Nat.ble (rest.map fun v => v.category).sum 8 = true) (hcells : Nat.ble (k + mc) rc = true) (hslots : Nat.ble (n + ms) rs = true) (d : decode cc pc = .ok (.invokevirtual index, 3)) (kk : xG Γ Ω nL Q (pc + 3) lv (r.toList ++ rest) h' sz' (k + mc) (n + ms)) : xG Γ Ω nL Q (pc) lv (st) h sz k n := by
  obtain ⟨p, l, e, R, s, m, args, below, meth, c⟩ := Γ
  obtain ⟨hx, hb, hml, hown, hts, hK, hO, hV, hbs, hlk, hnm, hrt, hRm⟩ := X
  intro H locs ls hz hR hS hl
  subst hRm
  subst hst
  have hroom : (xrm dd mc ms).frames + 1 ≤ rf ∧ 8 + (maxL + 11) + (xrm dd mc ms).locals ≤ rl := ⟨Nat.le_of_ble_eq_true hrf, by have := Nat.le_of_ble_eq_true hrl; show 8 + (maxL + 11) + 35 * dd ≤ rl; omega⟩
  refine xRun (va_runV (As := As) (rest := rest) ⟨hx, hb, hml, hown, hts⟩ hC ⟨callB_of (Ts := x_big) (rm := xrm dd mc ms) np hts (x_bigC hw.1) rfl rfl rfl (hts _ hw.2.1) (hts _ hlk1) ⟨hw.2.2.1, hw.2.2.2.1, hw.2.2.2.2⟩ hroom, hts _ hlk2, hts _ hlk3⟩ ⟨xPre.blind, xrecv hK hR ha hc, xPre.at hz hR hS hK hO hV hbs⟩ rfl hn hl.1 rfl (lv_room (Nat.le_of_ble_eq_true hcat)) d ⟨Nat.le_of_ble_eq_true hcells, Nat.le_of_ble_eq_true hslots⟩) hS (fun H1 locs1 e1 e2 e3 => kk H1 locs1 ls e1 e2 e3 hl)

theorem xr_callS (X : xX Γ Ω cc nL own nm ret rf rl rc rs) {y : MethodName} {cc' : ByteArray} {maxL np dd mc ms sz' index : Nat} {ret' : Option FieldType} {r : Option Value} {h' : xH} {rest : List Value}  (hlk1 : Cond.methodLink own index y ∈ x_big) (hlk2 : Cond.static y ∈ x_big) (hw : xCw y cc' maxL ret' np) (As : List Value) (hC : xC Γ.2.1 Ω y cc' maxL ret' dd mc ms (As) h sz r h' sz') (hn : As.length = np) (hst : st = As.reverse ++ rest) (hrf : Nat.ble (dd + 1) rf = true) (hrl : Nat.ble (19 + maxL + 35 * dd) rl = true) (hcat : Nat.ble (rest.map fun v => v.category).sum 8 = true) (hcells : Nat.ble (k + mc) rc = true) (hslots : Nat.ble (n + ms) rs = true) (d : decode cc pc = .ok (.invokestatic index, 3)) (kk : xG Γ Ω nL Q (pc + 3) lv (r.toList ++ rest) h' sz' (k + mc) (n + ms)) : xG Γ Ω nL Q (pc) lv (st) h sz k n := by
  obtain ⟨p, l, e, R, s, m, args, below, meth, c⟩ := Γ
  obtain ⟨hx, hb, hml, hown, hts, hK, hO, hV, hbs, hlk, hnm, hrt, hRm⟩ := X
  intro H locs ls hz hR hS hl
  subst hRm
  subst hst
  have hroom : (xrm dd mc ms).frames + 1 ≤ rf ∧ 8 + (maxL + 11) + (xrm dd mc ms).locals ≤ rl := ⟨Nat.le_of_ble_eq_true hrf, by have := Nat.le_of_ble_eq_true hrl; show 8 + (maxL + 11) + 35 * dd ≤ rl; omega⟩
  refine xRun (va_runS (As := As) (rest := rest) ⟨hx, hb, hml, hown, hts⟩ hC ⟨callB_of (Ts := x_big) (rm := xrm dd mc ms) np hts (x_bigC hw.1) rfl rfl rfl (hts _ hw.2.1) (hts _ hlk1) ⟨hw.2.2.1, hw.2.2.2.1, hw.2.2.2.2⟩ hroom, hts _ hlk2⟩ ⟨xPre.blind, xPre.at hz hR hS hK hO hV hbs⟩ rfl hn hl.1 rfl (lv_room (Nat.le_of_ble_eq_true hcat)) d ⟨Nat.le_of_ble_eq_true hcells, Nat.le_of_ble_eq_true hslots⟩) hS (fun H1 locs1 e1 e2 e3 => kk H1 locs1 ls e1 e2 e3 hl)

theorem xr_callI (X : xX Γ Ω cc nL own nm ret rf rl rc rs) {y : MethodName} {cc' : ByteArray} {maxL np dd mc ms sz' index : Nat} {ret' : Option FieldType} {r : Option Value} {h' : xH} {rest : List Value} {a : Nat} (hlk1 : Cond.methodLink own index y ∈ x_big) (hlk2 : Cond.instanceMethod y ∈ x_big) (hin : y.name = "<init>") (hw : xCw y cc' maxL none np) (As : List Value) (hC : xC Γ.2.1 Ω y cc' maxL none dd mc ms (.ref a :: As) h sz r h' sz') (hn : As.length = np) (hst : st = As.reverse ++ .ref a :: rest) (hrf : Nat.ble (dd + 1) rf = true) (hrl : Nat.ble (19 + maxL + 35 * dd) rl = true) (hcat : Nat.ble (rest.map fun v => v.category).sum 8 = true) (hcells : Nat.ble (k + mc) rc = true) (hslots : Nat.ble (n + ms) rs = true) (d : decode cc pc = .ok (.invokespecial index, 3)) (kk : xG Γ Ω nL Q (pc + 3) lv (r.toList ++ rest) h' sz' (k + mc) (n + ms)) : xG Γ Ω nL Q (pc) lv (st) h sz k n := by
  obtain ⟨p, l, e, R, s, m, args, below, meth, c⟩ := Γ
  obtain ⟨hx, hb, hml, hown, hts, hK, hO, hV, hbs, hlk, hnm, hrt, hRm⟩ := X
  intro H locs ls hz hR hS hl
  subst hRm
  subst hst
  have hroom : (xrm dd mc ms).frames + 1 ≤ rf ∧ 8 + (maxL + 11) + (xrm dd mc ms).locals ≤ rl := ⟨Nat.le_of_ble_eq_true hrf, by have := Nat.le_of_ble_eq_true hrl; show 8 + (maxL + 11) + 35 * dd ≤ rl; omega⟩
  refine xRun (va_runI (As := As) (rest := rest) ⟨hx, hb, hml, hown, hts⟩ hC ⟨callB_of (Ts := x_big) (rm := xrm dd mc ms) np hts (x_bigC hw.1) rfl rfl rfl (hts _ hw.2.1) (hts _ hlk1) ⟨hw.2.2.1, hw.2.2.2.1, hw.2.2.2.2⟩ hroom, hin, hts _ hlk2⟩ ⟨xPre.blind, xPre.at hz hR hS hK hO hV hbs⟩ rfl hn hl.1 rfl (lv_room (Nat.le_of_ble_eq_true hcat)) d ⟨Nat.le_of_ble_eq_true hcells, Nat.le_of_ble_eq_true hslots⟩) hS (fun H1 locs1 e1 e2 e3 => kk H1 locs1 ls e1 e2 e3 hl)

theorem xr_callSN (X : xX Γ Ω cc nL own nm ret rf rl rc rs) {y : MethodName} {cc' : ByteArray} {maxL np dd mc ms sz' index : Nat} {ret' : Option FieldType} {r : Option Value} {h' : xH} {rest : List Value} {host : String} (hlk1 : (own, index, y, host) ∈ x_nM) (hlk2 : Cond.static y ∈ x_big) (hw : xCw y cc' maxL ret' np) (As : List Value) (hC : xC Γ.2.1 Ω y cc' maxL ret' dd mc ms (As) h sz r h' sz') (hn : As.length = np) (hst : st = As.reverse ++ rest) (hrf : Nat.ble (dd + 1) rf = true) (hrl : Nat.ble (19 + maxL + 35 * dd) rl = true) (hcat : Nat.ble (rest.map fun v => v.category).sum 8 = true) (hcells : Nat.ble (k + mc) rc = true) (hslots : Nat.ble (n + ms) rs = true) (d : decode cc pc = .ok (.invokestatic index, 3)) (kk : xG Γ Ω nL Q (pc + 3) lv (r.toList ++ rest) h' sz' (k + mc) (n + ms)) : xG Γ Ω nL Q (pc) lv (st) h sz k n := by
  obtain ⟨p, l, e, R, s, m, args, below, meth, c⟩ := Γ
  obtain ⟨hx, hb, hml, hown, hts, hK, hO, hV, hbs, hlk, hnm, hrt, hRm⟩ := X
  intro H locs ls hz hR hS hl
  subst hRm
  subst hst
  have hroom : (xrm dd mc ms).frames + 1 ≤ rf ∧ 8 + (maxL + 11) + (xrm dd mc ms).locals ≤ rl := ⟨Nat.le_of_ble_eq_true hrf, by have := Nat.le_of_ble_eq_true hrl; show 8 + (maxL + 11) + 35 * dd ≤ rl; omega⟩
  refine xRun (va_runSN (As := As) (rest := rest) ⟨hx, hb, hml, hown, hts⟩ hC ⟨⟨⟨rfl, rfl, hroom.1, hroom.2, pay_in hts (x_bigC hw.1), List.mem_cons_self⟩, hts _ hw.1, hts _ hw.2.1, ⟨hw.2.2.1, hw.2.2.2.1⟩, (fun sig h2 => by have h3 := hw.2.2.2.2; rw [h2] at h3; exact (Option.some.inj h3).symm), va_Nw.use rfl (hO.1 _ hlk1)⟩, hts _ hlk2, trivial⟩ ⟨xPre.blind, xPre.at hz hR hS hK hO hV hbs⟩ rfl hn hl.1 rfl (lv_room (Nat.le_of_ble_eq_true hcat)) d ⟨Nat.le_of_ble_eq_true hcells, Nat.le_of_ble_eq_true hslots⟩) hS (fun H1 locs1 e1 e2 e3 => kk H1 locs1 ls e1 e2 e3 hl)

theorem xr_callIN (X : xX Γ Ω cc nL own nm ret rf rl rc rs) {y : MethodName} {cc' : ByteArray} {maxL np dd mc ms sz' index : Nat} {ret' : Option FieldType} {r : Option Value} {h' : xH} {rest : List Value} {a : Nat} {host : String} (hlk1 : (own, index, y, host) ∈ x_nM) (hlk2 : Cond.instanceMethod y ∈ x_big) (hin : y.name = "<init>") (hw : xCw y cc' maxL none np) (As : List Value) (hC : xC Γ.2.1 Ω y cc' maxL none dd mc ms (.ref a :: As) h sz r h' sz') (hn : As.length = np) (hst : st = As.reverse ++ .ref a :: rest) (hrf : Nat.ble (dd + 1) rf = true) (hrl : Nat.ble (19 + maxL + 35 * dd) rl = true) (hcat : Nat.ble (rest.map fun v => v.category).sum 8 = true) (hcells : Nat.ble (k + mc) rc = true) (hslots : Nat.ble (n + ms) rs = true) (d : decode cc pc = .ok (.invokespecial index, 3)) (kk : xG Γ Ω nL Q (pc + 3) lv (r.toList ++ rest) h' sz' (k + mc) (n + ms)) : xG Γ Ω nL Q (pc) lv (st) h sz k n := by
  obtain ⟨p, l, e, R, s, m, args, below, meth, c⟩ := Γ
  obtain ⟨hx, hb, hml, hown, hts, hK, hO, hV, hbs, hlk, hnm, hrt, hRm⟩ := X
  intro H locs ls hz hR hS hl
  subst hRm
  subst hst
  have hroom : (xrm dd mc ms).frames + 1 ≤ rf ∧ 8 + (maxL + 11) + (xrm dd mc ms).locals ≤ rl := ⟨Nat.le_of_ble_eq_true hrf, by have := Nat.le_of_ble_eq_true hrl; show 8 + (maxL + 11) + 35 * dd ≤ rl; omega⟩
  refine xRun (va_runIN (As := As) (rest := rest) ⟨hx, hb, hml, hown, hts⟩ hC ⟨⟨⟨rfl, rfl, hroom.1, hroom.2, pay_in hts (x_bigC hw.1), List.mem_cons_self⟩, hts _ hw.1, hts _ hw.2.1, ⟨hw.2.2.1, hw.2.2.2.1⟩, (fun sig h2 => by have h3 := hw.2.2.2.2; rw [h2] at h3; exact (Option.some.inj h3).symm), va_Nw.use rfl (hO.1 _ hlk1)⟩, hin, hts _ hlk2⟩ ⟨xPre.blind, xPre.at hz hR hS hK hO hV hbs⟩ rfl hn hl.1 rfl (lv_room (Nat.le_of_ble_eq_true hcat)) d ⟨Nat.le_of_ble_eq_true hcells, Nat.le_of_ble_eq_true hslots⟩) hS (fun H1 locs1 e1 e2 e3 => kk H1 locs1 ls e1 e2 e3 hl)

theorem xr_callU (X : xX Γ Ω cc nL own nm ret rf rl rc rs) {y : MethodName} {cc' : ByteArray} {maxL np dd mc ms sz' index : Nat} {ret' : Option FieldType} {r : Option Value} {h' : xH} {rest : List Value} {a ci : Nat} {fs : List Value} {rv : vw_C} {x : MethodName} {owner : String} (ha : h a = some (.inr (ci, fs))) (hc : vwCl[ci]? = some rv) (hlk1 : Cond.methodLink own index x ∈ x_big) (hsm : Cond.sameMethod x.cls owner x.name x.desc ∈ x_big) (hdecl : (⟨owner, x.name, x.desc⟩ : MethodName) ∈ x_decl ∨ ∃ b0 m0 r0, Cond.instanceMethod ⟨owner, x.name, x.desc⟩ ∈ x_big ∧ Cond.code ⟨owner, x.name, x.desc⟩ b0 m0 r0 ∈ x_big) (hown2 : owner ≠ "java/lang/invoke/MethodHandle" ∧ owner ≠ "java/lang/invoke/VarHandle") (hdesc : x.desc = y.desc) (hlk2 : Cond.instanceMethod y ∈ x_big) (hlk3 : Cond.selects rv.1 x y ∈ x_big) (hw : xCw y cc' maxL ret' np) (As : List Value) (hC : xC Γ.2.1 Ω y cc' maxL ret' dd mc ms (.ref a :: As) h sz r h' sz') (hn : As.length = np) (hst : st = As.reverse ++ .ref a :: rest) (hrf : Nat.ble (dd + 1) rf = true) (hrl : Nat.ble (19 + maxL + 35 * dd) rl = true) (hcat : Nat.ble (rest.map fun v => v.category).sum 8 = true) (hcells : Nat.ble (k + mc) rc = true) (hslots : Nat.ble (n + ms) rs = true) (d : decode cc pc = .ok (.invokevirtual index, 3)) (kk : xG Γ Ω nL Q (pc + 3) lv (r.toList ++ rest) h' sz' (k + mc) (n + ms)) : xG Γ Ω nL Q (pc) lv (st) h sz k n := by
  obtain ⟨p, l, e, R, s, m, args, below, meth, c⟩ := Γ
  obtain ⟨hx, hb, hml, hown, hts, hK, hO, hV, hbs, hlk, hnm, hrt, hRm⟩ := X
  intro H locs ls hz hR hS hl
  subst hRm
  subst hst
  have hroom : (xrm dd mc ms).frames + 1 ≤ rf ∧ 8 + (maxL + 11) + (xrm dd mc ms).locals ≤ rl := ⟨Nat.le_of_ble_eq_true hrf, by have := Nat.le_of_ble_eq_true hrl; show 8 + (maxL + 11) + 35 * dd ≤ rl; omega⟩
  refine xRun (va_runU (x := x) (owner := owner) (bytes := cc') (maxL := maxL) (ret := ret') (As := As) (rest := rest) ⟨hx, hb, hml, hown, hts⟩ hC ?_ ⟨xPre.blind, xrecv hK hR ha hc, xPre.at hz hR hS hK hO hV hbs⟩ rfl hn hl.1 rfl (lv_room (Nat.le_of_ble_eq_true hcat)) d ⟨Nat.le_of_ble_eq_true hcells, Nat.le_of_ble_eq_true hslots⟩) hS (fun H1 locs1 e1 e2 e3 => kk H1 locs1 ls e1 e2 e3 hl)
  have hdecl' : va_Decl s ⟨owner, x.name, x.desc⟩ := by
    rcases hdecl with q | ⟨b0, m0, r0, q1, q2⟩
    · exact va_Decl.abs (hO.2.2.1 _ q)
    · exact va_Decl.of (hts _ q1) (hts _ q2)
  exact ⟨⟨rfl, rfl, hroom.1, hroom.2, pay_in hts (x_bigC hw.1), List.mem_cons_self⟩, hts _ hw.1, hts _ hw.2.1, hown2, (fun sig h2 => by have h3 := hw.2.2.2.2; rw [← hdesc, h2] at h3; exact (Option.some.inj h3).symm), hts _ hlk1, hts _ hsm, hdecl', hts _ hlk3, hts _ hlk2⟩
theorem xr_callSU (X : xX Γ Ω cc nL own nm ret rf rl rc rs) {y : MethodName} {cc' : ByteArray} {maxL np dd mc ms sz' index : Nat} {ret' : Option FieldType} {r : Option Value} {h' : xH} {rest : List Value} {a ci : Nat} {fs : List Value} {rv : vw_C} (ha : h a = some (.inr (ci, fs))) (hc : vwCl[ci]? = some rv) (hlk1 : Cond.methodLink own index y ∈ x_big) (hsm : Cond.sameMethod y.cls y.cls y.name y.desc ∈ x_big) (hsup : Cond.superclass own y.cls ∈ x_big) (hlk2 : Cond.instanceMethod y ∈ x_big) (hni : y.name ≠ "<init>") (hw : xCw y cc' maxL ret' np) (As : List Value) (hC : xC Γ.2.1 Ω y cc' maxL ret' dd mc ms (.ref a :: As) h sz r h' sz') (hn : As.length = np) (hst : st = As.reverse ++ .ref a :: rest) (hrf : Nat.ble (dd + 1) rf = true) (hrl : Nat.ble (19 + maxL + 35 * dd) rl = true) (hcat : Nat.ble (rest.map fun v => v.category).sum 8 = true) (hcells : Nat.ble (k + mc) rc = true) (hslots : Nat.ble (n + ms) rs = true) (d : decode cc pc = .ok (.invokespecial index, 3)) (kk : xG Γ Ω nL Q (pc + 3) lv (r.toList ++ rest) h' sz' (k + mc) (n + ms)) : xG Γ Ω nL Q (pc) lv (st) h sz k n := by
  obtain ⟨p, l, e, R, s, m, args, below, meth, c⟩ := Γ
  obtain ⟨hx, hb, hml, hown, hts, hK, hO, hV, hbs, hlk, hnm, hrt, hRm⟩ := X
  intro H locs ls hz hR hS hl
  subst hRm
  subst hst
  have hroom : (xrm dd mc ms).frames + 1 ≤ rf ∧ 8 + (maxL + 11) + (xrm dd mc ms).locals ≤ rl := ⟨Nat.le_of_ble_eq_true hrf, by have := Nat.le_of_ble_eq_true hrl; show 8 + (maxL + 11) + 35 * dd ≤ rl; omega⟩
  refine xRun (va_runSU (As := As) (rest := rest) (hK.1 ci rv hc).2 ⟨hx, hb, hml, hown, hts⟩ hC ⟨⟨rfl, rfl, hroom.1, hroom.2, pay_in hts (x_bigC hw.1), List.mem_cons_self⟩, hts _ hlk1, hts _ hsm, hts _ hsup, hts _ hlk2, hts _ hw.2.1, hts _ hw.1, hni, (fun sig h2 => by have h3 := hw.2.2.2.2; rw [h2] at h3; exact (Option.some.inj h3).symm)⟩ ⟨xPre.blind, xrecv hK hR ha hc, xPre.at hz hR hS hK hO hV hbs⟩ rfl hn hl.1 rfl (lv_room (Nat.le_of_ble_eq_true hcat)) d ⟨Nat.le_of_ble_eq_true hcells, Nat.le_of_ble_eq_true hslots⟩) hS (fun H1 locs1 e1 e2 e3 => kk H1 locs1 ls e1 e2 e3 hl)

theorem xr_iret (X : xX Γ Ω cc nL own nm ret rf rl rc rs) {v : Int32} {r : Option Value} {h' : xH} {sz' mc ms : Nat} (hret : ret = some .int)  (hv : some (.int v) = r) (hh : h = h') (hs : sz = sz') (hk : Nat.ble k mc = true) (hn : Nat.ble n ms = true) (d : decode cc pc = .ok (.ireturn, 1)) : xG Γ Ω nL (xQ Γ Ω r h' sz' mc ms) pc lv [.int v] h sz k n := by
  obtain ⟨p, l, e, R, s, m, args, below, meth, c⟩ := Γ
  obtain ⟨hx, hb, hml, hown, hts, hK, hO, hV, hbs, hlk, hnm, hrt, hRm⟩ := X
  intro H locs ls hz hR hS hl
  subst hv
  subst hh
  subst hs
  subst hz
  refine W.widen (Nat.le_of_ble_eq_true hk) (Nat.le_of_ble_eq_true hn) ?_
  exact W.iret hx hb (hrt.trans hret) (fun t ht hW => ⟨rfl, by rw [ht], by rw [ht]; exact hR.moved hW.alike, hS.F ht⟩) hS.2.2 d hlk
theorem xr_zret (X : xX Γ Ω cc nL own nm ret rf rl rc rs) {v : Int32} {ty : FieldType} {r : Option Value} {h' : xH} {sz' mc ms : Nat} (hret : ret = some ty) (hnar : narrow ty (.int v) = .int v) (hv : some (.int v) = r) (hh : h = h') (hs : sz = sz') (hk : Nat.ble k mc = true) (hn : Nat.ble n ms = true) (d : decode cc pc = .ok (.ireturn, 1)) : xG Γ Ω nL (xQ Γ Ω r h' sz' mc ms) pc lv [.int v] h sz k n := by
  obtain ⟨p, l, e, R, s, m, args, below, meth, c⟩ := Γ
  obtain ⟨hx, hb, hml, hown, hts, hK, hO, hV, hbs, hlk, hnm, hrt, hRm⟩ := X
  intro H locs ls hz hR hS hl
  subst hv
  subst hh
  subst hs
  subst hz
  refine W.widen (Nat.le_of_ble_eq_true hk) (Nat.le_of_ble_eq_true hn) ?_
  exact W.zret hx hb (hrt.trans hret) hnar (fun t ht hW => ⟨rfl, by rw [ht], by rw [ht]; exact hR.moved hW.alike, hS.F ht⟩) hS.2.2 d hlk
theorem xr_lret (X : xX Γ Ω cc nL own nm ret rf rl rc rs) {v : Int64} {r : Option Value} {h' : xH} {sz' mc ms : Nat} (hret : ret = some .long)  (hv : some (.long v) = r) (hh : h = h') (hs : sz = sz') (hk : Nat.ble k mc = true) (hn : Nat.ble n ms = true) (d : decode cc pc = .ok (.lreturn, 1)) : xG Γ Ω nL (xQ Γ Ω r h' sz' mc ms) pc lv [.long v] h sz k n := by
  obtain ⟨p, l, e, R, s, m, args, below, meth, c⟩ := Γ
  obtain ⟨hx, hb, hml, hown, hts, hK, hO, hV, hbs, hlk, hnm, hrt, hRm⟩ := X
  intro H locs ls hz hR hS hl
  subst hv
  subst hh
  subst hs
  subst hz
  refine W.widen (Nat.le_of_ble_eq_true hk) (Nat.le_of_ble_eq_true hn) ?_
  exact W.lret hx hb (hrt.trans hret) (fun t ht hW => ⟨rfl, by rw [ht], by rw [ht]; exact hR.moved hW.alike, hS.F ht⟩) hS.2.2 d hlk
theorem xr_vret (X : xX Γ Ω cc nL own nm ret rf rl rc rs)  {r : Option Value} {h' : xH} {sz' mc ms : Nat} (hret : ret = none)  (hv : none = r) (hh : h = h') (hs : sz = sz') (hk : Nat.ble k mc = true) (hn : Nat.ble n ms = true) (d : decode cc pc = .ok (.return_, 1)) : xG Γ Ω nL (xQ Γ Ω r h' sz' mc ms) pc lv [] h sz k n := by
  obtain ⟨p, l, e, R, s, m, args, below, meth, c⟩ := Γ
  obtain ⟨hx, hb, hml, hown, hts, hK, hO, hV, hbs, hlk, hnm, hrt, hRm⟩ := X
  intro H locs ls hz hR hS hl
  subst hv
  subst hh
  subst hs
  subst hz
  refine W.widen (Nat.le_of_ble_eq_true hk) (Nat.le_of_ble_eq_true hn) ?_
  exact W.vret hx hb (hrt.trans hret) (fun t ht hW => ⟨rfl, by rw [ht], by rw [ht]; exact hR.moved hW.alike, hS.F ht⟩) hS.2.2 d hlk
theorem xr_aret (X : xX Γ Ω cc nL own nm ret rf rl rc rs) {v : Value} {C : String} {r : Option Value} {h' : xH} {sz' mc ms : Nat} (hret : ret = some (.object C)) (hvr : v = .null ∨ ∃ a, v = .ref a) (hv : some v = r) (hh : h = h') (hs : sz = sz') (hk : Nat.ble k mc = true) (hn : Nat.ble n ms = true) (d : decode cc pc = .ok (.areturn, 1)) : xG Γ Ω nL (xQ Γ Ω r h' sz' mc ms) pc lv [v] h sz k n := by
  obtain ⟨p, l, e, R, s, m, args, below, meth, c⟩ := Γ
  obtain ⟨hx, hb, hml, hown, hts, hK, hO, hV, hbs, hlk, hnm, hrt, hRm⟩ := X
  intro H locs ls hz hR hS hl
  subst hv
  subst hh
  subst hs
  subst hz
  refine W.widen (Nat.le_of_ble_eq_true hk) (Nat.le_of_ble_eq_true hn) ?_
  exact W.aret hx hb (hrt.trans hret) (Or.inl ⟨C, rfl⟩) hvr (fun t ht hW => ⟨rfl, by rw [ht], by rw [ht]; exact hR.moved hW.alike, hS.F ht⟩) hS.2.2 d hlk
end XROWS
