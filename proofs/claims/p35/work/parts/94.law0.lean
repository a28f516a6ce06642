def R_law : String := "PlanesBackLaw"
def lw_P (b : Addr) (xs : List Int32) (args : Array Value) (s : State) : Prop := args = #[.ref b] ∧ s.IntsAt b xs ∧ xs.length ≤ 3584 ∧ (Jvm.Cond.and given_1 narrow_1).before args s = true
def lw_Q (_ : Array Value) (s : State) (o : Outcome) (t : State) : Prop := o = .returned (some (.int 1)) ∧ Framed s o t [] 600000 7302249
def lw_Z (below : List Frame) (a : Array Value) (s : State) : State → Prop := fun t => ∃ o, t.status = .running ∧ Ended t below o ∧ lw_Q a s o t
/-- the law's own end, with 1 on the stack, nothing written that was there before, its room as the claim has it -/
theorem lw_ret {p : Program} {l : Launch} {e : Env} {s : State} {m : MethodId} {below : List Frame} {meth : Method} {c : Code} {b : Nat} (hx : p.tables.exec = Jvm.exec) (hb : c.code = code) (hr : meth.sig.returnType = ret) (hlocks : meth.locks = false) {pc : Nat} {H : Heap} {ls : Array Slot} (hdg : decode code pc = .ok (.ireturn, 1)) : W p l e room_1 s m #[Value.ref b] below meth c H [] 600000 7302249 (lw_Z below #[Value.ref b] s) (F0 m pc ls [.int 1]) := by
  intro T hT X
  obtain ⟨fs, hret, hrun, hended, hW, hframe⟩ := X.leave (v := some (.int 1)) (hlocks := hlocks) (fun h => by rw [hr] at h; cases h)
  have hmeth' : T.vm.method? m = some meth := X.method'
  refine ⟨T.setFrames fs, ?_, .returned (some (.int 1)), hrun, hended, rfl, ⟨_, rfl⟩, hW, hframe⟩
  jvm_step X.here [X.here.top, hx, hb, hdg, hmeth', hr, ret, narrow_b1]
  (try refine ⟨rfl, ?_⟩); (try refine ⟨rfl, ?_⟩)
  first | (intro acts; rw [hret _ acts rfl rfl rfl]) | rw [hret _ _ rfl rfl rfl]
  exact Steps.refl _
/-- what holds at the law's entry: the machine, the code, the tables' words (any of lw_tbl by 'hts w (by decide +kernel)'), the script of L ints xs at the cell b, what the Statement gives of the start (any of its parts by flat_of_before) -/
def lw_At (p : Program) (s : State) (m : MethodId) (meth : Method) (c : Code) (b L : Nat) (xs : Nat → Int32) : Prop :=
  p.tables.exec = Jvm.exec ∧ c.code = code ∧ meth.sig.returnType = ret ∧ c.maxLocals = 4 ∧ s.vm.findClass R_law = some m.cls ∧ (∀ w ∈ lw_tbl, w.before #[Value.ref b] s = true) ∧ va_X b L xs s s.heap ∧ b < s.heap.size ∧ meth.locks = false ∧ (Jvm.Cond.and given_1 narrow_1).before #[Value.ref b] s = true
theorem wX_get (g : Nat → Nat) (c : Nat → ClassId) (v : Nat → Int32) (F : Nat → Nat → Int32) (rc : Nat) {k : Nat} (h : k < 79) : ∃ e : va_E, (wX g c v F rc)[k]? = some (g k, e) := by
  have h1 : ((wX g c v F rc).map (·.1))[k]? = some (g k) := by
    rw [wX_fst, List.getElem?_map, List.getElem?_range h]; rfl
  rw [List.getElem?_map] at h1
  cases e : (wX g c v F rc)[k]? with
  | none => rw [e] at h1; cases h1
  | some q =>
    rw [e] at h1
    have h2 : q.1 = g k := Option.some.inj h1
    exact ⟨q.2, by rw [← h2]⟩
theorem injX_of {g : Nat → Nat} {c : Nat → ClassId} {v : Nat → Int32} {F : Nat → Nat → Int32} {rc : Nat} {A : Nat → Prop} (h : va_D A (wX g c v F rc)) : injX g := fun i j hi hj e => by
  obtain ⟨a, ha⟩ := wX_get g c v F rc hi
  obtain ⟨b, hb⟩ := wX_get g c v F rc hj
  exact h.1 i j _ _ ha hb e
theorem wM_get (g : Nat → Nat) (c : Nat → ClassId) (v : Nat → Int32) (F : Nat → Nat → Int32) (rc : Nat) {k : Nat} (h : k < 46) : ∃ e : va_E, (wM g c v F rc)[k]? = some (g k, e) := by
  have h1 : ((wM g c v F rc).map (·.1))[k]? = some (g k) := by
    rw [wM_fst, List.getElem?_map, List.getElem?_range h]; rfl
  rw [List.getElem?_map] at h1
  cases e : (wM g c v F rc)[k]? with
  | none => rw [e] at h1; cases h1
  | some q =>
    rw [e] at h1
    have h2 : q.1 = g k := Option.some.inj h1
    exact ⟨q.2, by rw [← h2]⟩
theorem injM_of {g : Nat → Nat} {c : Nat → ClassId} {v : Nat → Int32} {F : Nat → Nat → Int32} {rc : Nat} {A : Nat → Prop} (h : va_D A (wM g c v F rc)) : injM g := fun i j hi hj e => by
  obtain ⟨a, ha⟩ := wM_get g c v F rc hi
  obtain ⟨b, hb⟩ := wM_get g c v F rc hj
  exact h.1 i j _ _ ha hb e
def LI (v : Nat → Int32) (F : Nat → Nat → Int32) (v' : Nat → Int32) (F' : Nat → Nat → Int32) : Prop := IX v F ∧ IM v' F' ∧ JO (v' 14) (v' 19) (F' 13) (F' 15) (F' 18) ∧ JL (v' 31) (F' 28) (F' 29) (F' 27) ∧ (v 20).toInt = (v' 2).toInt ∧ (v 40).toInt = (v' 6).toInt ∧ (v 11).toInt = (v' 1).toInt ∧ (v 161).toInt = (v' 45).toInt ∧ F 20 = F' 44 ∧ F 21 = F' 45
def LSta (s : State) (dC : Nat → ClassId) (dI : Nat → Nat → Nat) (gX : Nat → Nat) (cX : Nat → ClassId) (gM : Nat → Nat) (cM : Nat → ClassId) (adK adV : Nat → Nat) : Prop := injX gX ∧ injM gM ∧ (∀ k, k < 79 → s.heap.size ≤ gX k) ∧ (∀ k, k < 46 → s.heap.size ≤ gM k) ∧ (∀ i j, i < 79 → j < 46 → gX i ≠ gM j) ∧ va_K (dC, dI) classes (tyX cX) s ∧ va_K (dC, dI) classes (tyM cM) s ∧ EX adK adV (fun q : Nat => s.heap.size ≤ q) s
theorem LSta.fX {s dC dI gX cX gM cM adK adV} (h : LSta s dC dI gX cX gM cM adK adV) {H : Heap} (hs : s.heap.size ≤ H.size) : ∀ q, AX gX H.size q → (fun q : Nat => s.heap.size ≤ q) q := fun q hq => hq.elim (fun ⟨k, hk, e⟩ => by rw [e]; exact h.2.2.1 k hk) (fun h1 => Nat.le_trans hs h1)
theorem LSta.fM {s dC dI gX cX gM cM adK adV} (h : LSta s dC dI gX cX gM cM adK adV) {H : Heap} (hs : s.heap.size ≤ H.size) : ∀ q, AM gM H.size q → (fun q : Nat => s.heap.size ≤ q) q := fun q hq => hq.elim (fun ⟨k, hk, e⟩ => by rw [e]; exact h.2.2.2.1 k hk) (fun h1 => Nat.le_trans hs h1)
theorem LSta.kM {s dC dI gX cX gM cM adK adV} (h : LSta s dC dI gX cX gM cM adK adV) {H H1 : Heap} {v F rc} (hP : va_P (dC, dI) classes (wM gM cM v F rc) H) (hk1 : ∀ q : Nat, q < H.size → ¬ AX gX H.size q → H1[q]? = H[q]?) : va_P (dC, dI) classes (wM gM cM v F rc) H1 := hP.kept (fun k q hq => by
  have h1 := (hP k q hq).lt
  have h2 := wM_at hq
  exact hk1 _ h1 (fun hh => hh.elim (fun ⟨j, hj, e⟩ => h.2.2.2.2.1 j k hj h2.1 (by rw [← e, h2.2])) (fun hh => absurd h1 (Nat.not_lt.mpr hh))))
theorem LSta.kX {s dC dI gX cX gM cM adK adV} (h : LSta s dC dI gX cX gM cM adK adV) {H H1 : Heap} {v F rc} (hP : va_P (dC, dI) classes (wX gX cX v F rc) H) (hk1 : ∀ q : Nat, q < H.size → ¬ AM gM H.size q → H1[q]? = H[q]?) : va_P (dC, dI) classes (wX gX cX v F rc) H1 := hP.kept (fun k q hq => by
  have h1 := (hP k q hq).lt
  have h2 := wX_at hq
  exact hk1 _ h1 (fun hh => hh.elim (fun ⟨j, hj, e⟩ => h.2.2.2.2.1 k j h2.1 hj (by rw [← e, h2.2])) (fun hh => absurd h1 (Nat.not_lt.mpr hh))))

theorem alX_c {v v1 : Nat → Int32} {F F1 : Nat → Nat → Int32} (h : alX v1 F1 = alX v F) : ((v1 20).toInt = (v 20).toInt ∧ (v1 40).toInt = (v 40).toInt ∧ (v1 11).toInt = (v 11).toInt ∧ (v1 161).toInt = (v 161).toInt) ∧ F1 20 = F 20 ∧ F1 21 = F 21 :=
  ⟨⟨congrArg (fun t => t.1.toInt) h, congrArg (fun t => t.2.1.toInt) h, congrArg (fun t => t.2.2.1.toInt) h, congrArg (fun t => t.2.2.2.1.toInt) h⟩, congrArg (fun t => t.2.2.2.2.1) h, congrArg (fun t => t.2.2.2.2.2) h⟩

theorem sum_0 {v v1 : Nat → Int32} {F F1 : Nat → Nat → Int32} {r : Int32} {V : Prop} (hb : 0 ≤ (v 20).toInt) (h : (¬ V ∧ r.toInt = -1 ∧ alX v1 F1 = alX v F) ∨ (V ∧ ((10 ≤ (v 20).toInt ∧ r.toInt = -3 ∧ alX v1 F1 = alX v F) ∨ ((v 20).toInt < 10 ∧ r = v 20 ∧ alX v1 F1 = alXS0 (alX v F) (v 20 + 1))))) : ((¬ V ∧ r.toInt = -1 ∧ (v1 20).toInt = (v 20).toInt) ∨ (V ∧ 10 ≤ (v 20).toInt ∧ r.toInt = -3 ∧ (v1 20).toInt = (v 20).toInt) ∨ (V ∧ (v 20).toInt < 10 ∧ r.toInt = (v 20).toInt ∧ (v1 20).toInt = (v 20).toInt + 1)) ∧ ((v1 40).toInt = (v 40).toInt ∧ (v1 11).toInt = (v 11).toInt ∧ (v1 161).toInt = (v 161).toInt) ∧ F1 20 = F 20 ∧ F1 21 = F 21 := by
  rcases h with ⟨h1, h2, h3⟩ | ⟨h1, ⟨h2, h3, h4⟩ | ⟨h2, h3, h4⟩⟩
  · exact ⟨Or.inl ⟨h1, h2, congrArg (fun t => t.1.toInt) h3⟩, ⟨congrArg (fun t => t.2.1.toInt) h3, congrArg (fun t => t.2.2.1.toInt) h3, congrArg (fun t => t.2.2.2.1.toInt) h3⟩, congrArg (fun t => t.2.2.2.2.1) h3, congrArg (fun t => t.2.2.2.2.2) h3⟩
  · exact ⟨Or.inr (Or.inl ⟨h1, h2, h3, congrArg (fun t => t.1.toInt) h4⟩), ⟨congrArg (fun t => t.2.1.toInt) h4, congrArg (fun t => t.2.2.1.toInt) h4, congrArg (fun t => t.2.2.2.1.toInt) h4⟩, congrArg (fun t => t.2.2.2.2.1) h4, congrArg (fun t => t.2.2.2.2.2) h4⟩
  · refine ⟨Or.inr (Or.inr ⟨h1, h2, by rw [h3], ?_⟩), ⟨congrArg (fun t => t.2.1.toInt) h4, congrArg (fun t => t.2.2.1.toInt) h4, congrArg (fun t => t.2.2.2.1.toInt) h4⟩, congrArg (fun t => t.2.2.2.2.1) h4, congrArg (fun t => t.2.2.2.2.2) h4⟩
    have e9 : (v1 20).toInt = (v 20 + 1).toInt := congrArg (fun t => t.1.toInt) h4
    rw [e9]
    exact tadd rfl rfl (b := 1) (by decide) (by omega)
theorem sum_1 {v v1 : Nat → Int32} {F F1 : Nat → Nat → Int32} {r : Int32} {V : Prop} (hb : 0 ≤ (v 40).toInt) (h : (¬ V ∧ r.toInt = -1 ∧ alX v1 F1 = alX v F) ∨ (V ∧ ((10 ≤ (v 40).toInt ∧ r.toInt = -3 ∧ alX v1 F1 = alX v F) ∨ ((v 40).toInt < 10 ∧ r = v 40 ∧ alX v1 F1 = alXS1 (alX v F) (v 40 + 1))))) : ((¬ V ∧ r.toInt = -1 ∧ (v1 40).toInt = (v 40).toInt) ∨ (V ∧ 10 ≤ (v 40).toInt ∧ r.toInt = -3 ∧ (v1 40).toInt = (v 40).toInt) ∨ (V ∧ (v 40).toInt < 10 ∧ r.toInt = (v 40).toInt ∧ (v1 40).toInt = (v 40).toInt + 1)) ∧ ((v1 20).toInt = (v 20).toInt ∧ (v1 11).toInt = (v 11).toInt ∧ (v1 161).toInt = (v 161).toInt) ∧ F1 20 = F 20 ∧ F1 21 = F 21 := by
  rcases h with ⟨h1, h2, h3⟩ | ⟨h1, ⟨h2, h3, h4⟩ | ⟨h2, h3, h4⟩⟩
  · exact ⟨Or.inl ⟨h1, h2, congrArg (fun t => t.2.1.toInt) h3⟩, ⟨congrArg (fun t => t.1.toInt) h3, congrArg (fun t => t.2.2.1.toInt) h3, congrArg (fun t => t.2.2.2.1.toInt) h3⟩, congrArg (fun t => t.2.2.2.2.1) h3, congrArg (fun t => t.2.2.2.2.2) h3⟩
  · exact ⟨Or.inr (Or.inl ⟨h1, h2, h3, congrArg (fun t => t.2.1.toInt) h4⟩), ⟨congrArg (fun t => t.1.toInt) h4, congrArg (fun t => t.2.2.1.toInt) h4, congrArg (fun t => t.2.2.2.1.toInt) h4⟩, congrArg (fun t => t.2.2.2.2.1) h4, congrArg (fun t => t.2.2.2.2.2) h4⟩
  · refine ⟨Or.inr (Or.inr ⟨h1, h2, by rw [h3], ?_⟩), ⟨congrArg (fun t => t.1.toInt) h4, congrArg (fun t => t.2.2.1.toInt) h4, congrArg (fun t => t.2.2.2.1.toInt) h4⟩, congrArg (fun t => t.2.2.2.2.1) h4, congrArg (fun t => t.2.2.2.2.2) h4⟩
    have e9 : (v1 40).toInt = (v 40 + 1).toInt := congrArg (fun t => t.2.1.toInt) h4
    rw [e9]
    exact tadd rfl rfl (b := 1) (by decide) (by omega)
theorem sum_3 {v v1 : Nat → Int32} {F F1 : Nat → Nat → Int32} {r : Int32} {V : Prop} (hb : 0 ≤ (v 161).toInt) (h : (¬ V ∧ r.toInt = -1 ∧ alX v1 F1 = alX v F) ∨ (V ∧ ((20 ≤ (v 161).toInt ∧ r.toInt = -3 ∧ alX v1 F1 = alX v F) ∨ ((v 161).toInt < 20 ∧ r = v 161 ∧ alX v1 F1 = alXS3 (alX v F) (v 161 + 1))))) : ((¬ V ∧ r.toInt = -1 ∧ (v1 161).toInt = (v 161).toInt) ∨ (V ∧ 20 ≤ (v 161).toInt ∧ r.toInt = -3 ∧ (v1 161).toInt = (v 161).toInt) ∨ (V ∧ (v 161).toInt < 20 ∧ r.toInt = (v 161).toInt ∧ (v1 161).toInt = (v 161).toInt + 1)) ∧ ((v1 20).toInt = (v 20).toInt ∧ (v1 40).toInt = (v 40).toInt ∧ (v1 11).toInt = (v 11).toInt) ∧ F1 20 = F 20 ∧ F1 21 = F 21 := by
  rcases h with ⟨h1, h2, h3⟩ | ⟨h1, ⟨h2, h3, h4⟩ | ⟨h2, h3, h4⟩⟩
  · exact ⟨Or.inl ⟨h1, h2, congrArg (fun t => t.2.2.2.1.toInt) h3⟩, ⟨congrArg (fun t => t.1.toInt) h3, congrArg (fun t => t.2.1.toInt) h3, congrArg (fun t => t.2.2.1.toInt) h3⟩, congrArg (fun t => t.2.2.2.2.1) h3, congrArg (fun t => t.2.2.2.2.2) h3⟩
  · exact ⟨Or.inr (Or.inl ⟨h1, h2, h3, congrArg (fun t => t.2.2.2.1.toInt) h4⟩), ⟨congrArg (fun t => t.1.toInt) h4, congrArg (fun t => t.2.1.toInt) h4, congrArg (fun t => t.2.2.1.toInt) h4⟩, congrArg (fun t => t.2.2.2.2.1) h4, congrArg (fun t => t.2.2.2.2.2) h4⟩
  · refine ⟨Or.inr (Or.inr ⟨h1, h2, by rw [h3], ?_⟩), ⟨congrArg (fun t => t.1.toInt) h4, congrArg (fun t => t.2.1.toInt) h4, congrArg (fun t => t.2.2.1.toInt) h4⟩, congrArg (fun t => t.2.2.2.2.1) h4, congrArg (fun t => t.2.2.2.2.2) h4⟩
    have e9 : (v1 161).toInt = (v 161 + 1).toInt := congrArg (fun t => t.2.2.2.1.toInt) h4
    rw [e9]
    exact tadd rfl rfl (b := 1) (by decide) (by omega)
theorem sum_2 {v v1 : Nat → Int32} {F F1 : Nat → Nat → Int32} {r p0 : Int32} (hb : 0 ≤ (v 11).toInt) (h : (¬ (1 ≤ p0.toInt ∧ p0.toInt ≤ 400 ∧ (v 11).toInt + p0.toInt ≤ 9999) ∧ r.toInt = -1 ∧ alX v1 F1 = alX v F) ∨ ((1 ≤ p0.toInt ∧ p0.toInt ≤ 400 ∧ (v 11).toInt + p0.toInt ≤ 9999) ∧ r = v 11 + p0 ∧ alX v1 F1 = alXS2 (alX v F) (v 11 + p0))) : ((¬ (1 ≤ p0.toInt ∧ p0.toInt ≤ 400 ∧ (v 11).toInt + p0.toInt ≤ 9999) ∧ r.toInt = -1 ∧ (v1 11).toInt = (v 11).toInt) ∨ ((1 ≤ p0.toInt ∧ p0.toInt ≤ 400 ∧ (v 11).toInt + p0.toInt ≤ 9999) ∧ r.toInt = (v 11).toInt + p0.toInt ∧ (v1 11).toInt = (v 11).toInt + p0.toInt)) ∧ ((v1 20).toInt = (v 20).toInt ∧ (v1 40).toInt = (v 40).toInt ∧ (v1 161).toInt = (v 161).toInt) ∧ F1 20 = F 20 ∧ F1 21 = F 21 := by
  rcases h with ⟨h1, h2, h3⟩ | ⟨h1, h2, h3⟩
  · exact ⟨Or.inl ⟨h1, h2, congrArg (fun t => t.2.2.1.toInt) h3⟩, ⟨congrArg (fun t => t.1.toInt) h3, congrArg (fun t => t.2.1.toInt) h3, congrArg (fun t => t.2.2.2.1.toInt) h3⟩, congrArg (fun t => t.2.2.2.2.1) h3, congrArg (fun t => t.2.2.2.2.2) h3⟩
  · have e9 : (v1 11).toInt = (v 11 + p0).toInt := congrArg (fun t => t.2.2.1.toInt) h3
    have e8 : (v 11 + p0).toInt = (v 11).toInt + p0.toInt := tadd rfl rfl rfl (by omega)
    exact ⟨Or.inr ⟨h1, by rw [h2, e8], by rw [e9, e8]⟩, ⟨congrArg (fun t => t.1.toInt) h3, congrArg (fun t => t.2.1.toInt) h3, congrArg (fun t => t.2.2.2.1.toInt) h3⟩, congrArg (fun t => t.2.2.2.2.1) h3, congrArg (fun t => t.2.2.2.2.2) h3⟩
theorem sum_L {v v1 v' : Nat → Int32} {F F1 F' F2 : Nat → Nat → Int32} {r1 r2 p0 p1 p2 : Int32} (hp : (v 40).toInt = (v' 6).toInt) (hl : F 20 = F' 44) (hn : F 21 = F' 45) (hb : (F 20 p0.toNatClampNeg).toInt ≤ 4) (h : ((¬ ((0 ≤ p0.toInt ∧ p0.toInt < (v 40).toInt) ∧ (0 ≤ p1.toInt ∧ p1.toInt ≤ 9) ∧ (0 ≤ p2.toInt ∧ p2.toInt ≤ 99999)) ∧ r1.toInt = -1 ∧ alX v1 F1 = alX v F) ∨ (((0 ≤ p0.toInt ∧ p0.toInt < (v 40).toInt) ∧ (0 ≤ p1.toInt ∧ p1.toInt ≤ 9) ∧ (0 ≤ p2.toInt ∧ p2.toInt ≤ 99999)) ∧ ((4 ≤ (F 20 p0.toNatClampNeg).toInt ∧ r1.toInt = -3 ∧ alX v1 F1 = alX v F) ∨ ((F 20 p0.toNatClampNeg).toInt < 4 ∧ r1.toInt = (F 20 p0.toNatClampNeg).toInt + 1 ∧ exL (fun (j : Nat) (x : Int32) => (j : Int) = 4 * p0.toInt + (F 20 p0.toNatClampNeg).toInt ∧ x.toInt = (F 20 p0.toNatClampNeg).toInt + 1 ∧ alX v1 F1 = alXS4 (alXS5 (alX v F) (upd (F 21) j p2)) (upd (F 20) p0.toNatClampNeg x))))))) (h2 : (¬ ((0 ≤ p0.toInt ∧ p0.toInt < (v' 6).toInt) ∧ (0 ≤ p1.toInt ∧ p1.toInt ≤ 9) ∧ (0 ≤ p2.toInt ∧ p2.toInt ≤ 99999)) ∧ r2.toInt = -1 ∧ F2 44 = F' 44 ∧ F2 45 = F' 45) ∨ (((0 ≤ p0.toInt ∧ p0.toInt < (v' 6).toInt) ∧ (0 ≤ p1.toInt ∧ p1.toInt ≤ 9) ∧ (0 ≤ p2.toInt ∧ p2.toInt ≤ 99999)) ∧ (F' 44 p0.toNatClampNeg).toInt = 4 ∧ r2.toInt = -3 ∧ F2 44 = F' 44 ∧ F2 45 = F' 45) ∨ (((0 ≤ p0.toInt ∧ p0.toInt < (v' 6).toInt) ∧ (0 ≤ p1.toInt ∧ p1.toInt ≤ 9) ∧ (0 ≤ p2.toInt ∧ p2.toInt ≤ 99999)) ∧ (F' 44 p0.toNatClampNeg).toInt < 4 ∧ r2.toInt = (F' 44 p0.toNatClampNeg).toInt + 1 ∧ exL (fun (j : Nat) (x : Int32) => (j : Int) = 4 * p0.toInt + (F' 44 p0.toNatClampNeg).toInt ∧ x.toInt = (F' 44 p0.toNatClampNeg).toInt + 1 ∧ F2 45 = upd (F' 45) j p2 ∧ F2 44 = upd (F' 44) p0.toNatClampNeg x))) : (r1.toInt = r2.toInt ∧ (v1 20).toInt = (v 20).toInt ∧ (v1 40).toInt = (v 40).toInt ∧ (v1 11).toInt = (v 11).toInt ∧ (v1 161).toInt = (v 161).toInt) ∧ F1 20 = F2 44 ∧ F1 21 = F2 45 := by
  rw [← hl, ← hn, ← hp] at h2
  rcases h with ⟨h1, h3, h4⟩ | ⟨h1, ⟨h3, h4, h5⟩ | ⟨h3, h4, j, x, h5, h6, h7⟩⟩
  · rcases h2 with ⟨k1, k2, k3, k4⟩ | ⟨k1, -⟩ | ⟨k1, -⟩
    · exact ⟨⟨by omega, congrArg (fun t => t.1.toInt) h4, congrArg (fun t => t.2.1.toInt) h4, congrArg (fun t => t.2.2.1.toInt) h4, congrArg (fun t => t.2.2.2.1.toInt) h4⟩, (congrArg (fun t => t.2.2.2.2.1) h4).trans k3.symm, (congrArg (fun t => t.2.2.2.2.2) h4).trans k4.symm⟩
    · exact absurd k1 h1
    · exact absurd k1 h1
  · rcases h2 with ⟨k1, -⟩ | ⟨k1, k2, k3, k4, k5⟩ | ⟨k1, k2, -⟩
    · exact absurd h1 k1
    · exact ⟨⟨by omega, congrArg (fun t => t.1.toInt) h5, congrArg (fun t => t.2.1.toInt) h5, congrArg (fun t => t.2.2.1.toInt) h5, congrArg (fun t => t.2.2.2.1.toInt) h5⟩, (congrArg (fun t => t.2.2.2.2.1) h5).trans k4.symm, (congrArg (fun t => t.2.2.2.2.2) h5).trans k5.symm⟩
    · exfalso; omega
  · rcases h2 with ⟨k1, -⟩ | ⟨k1, k2, -⟩ | ⟨k1, k2, k3, j', x', k4, k5, k6, k7⟩
    · exact absurd h1 k1
    · exfalso; omega
    · obtain rfl : x = x' := Int32.toInt_inj.mp (by omega)
      obtain rfl : j = j' := by omega
      exact ⟨⟨by omega, congrArg (fun t => t.1.toInt) h7, congrArg (fun t => t.2.1.toInt) h7, congrArg (fun t => t.2.2.1.toInt) h7, congrArg (fun t => t.2.2.2.1.toInt) h7⟩, (congrArg (fun t => t.2.2.2.2.1) h7).trans k7.symm, (congrArg (fun t => t.2.2.2.2.2) h7).trans k6.symm⟩
