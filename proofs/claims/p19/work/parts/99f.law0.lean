def R_law : String := "PlanesBackLaw"
def lw_P (b : Addr) (xs : List Int32) (args : Array Value) (s : State) : Prop := args = #[.ref b] ∧ s.IntsAt b xs ∧ xs.length ≤ 3584 ∧ (Jvm.Cond.and given_1 narrow_1).before args s = true
def lw_Q (_ : Array Value) (s : State) (o : Outcome) (t : State) : Prop := o = .returned (some (.int 1)) ∧ Framed s o t [] 600000 7302249
def lw_Z (below : List Frame) (a : Array Value) (s : State) : State → Prop := fun t => ∃ o, t.status = .running ∧ Ended t below o ∧ lw_Q a s o t
/-- the law's own end, with 1 on the stack, nothing written that was there before, its room as the claim has it -/
theorem lw_ret {p : Program} {l : Launch} {e : Env} {s : State} {m : MethodId} {below : List Frame} {meth : Method} {c : Code} {b : Nat} (hx : p.tables.exec = Jvm.exec) (hb : c.code = code) (hr : meth.sig.returnType = ret) (hlocks : meth.locks = false) {pc : Nat} {H : Heap} {ls : Array Slot} (hdg : decode code pc = .ok (.ireturn, 1)) : W p l e room_1 s m #[Value.ref b] below meth c H [] 600000 7302249 (lw_Z below #[Value.ref b] s) (F0 m pc ls [.int 1]) := by
  intro T hT X
  obtain ⟨fs, hret, hrun, hended, hW, hframe⟩ := X.leave (v := some (.int 1)) (hlocks := hlocks) (fun h => by rw [hr] at h; cases h)
  have hmeth' : T.vm.method? m = some meth := X.method'
  refine ⟨T.setFrames fs, ?_, .returned (some (.int 1)), hrun, hended, rfl, ⟨_, rfl⟩, hW, hframe⟩
  jvm_step X.here [X.here.top, hx, hb, hdg, hmeth', hr, ret, narrow_b1]
  (try refine ⟨rfl, ?_⟩); (try refine ⟨rfl, ?_⟩)
  first | (intro acts; rw [hret _ acts rfl rfl rfl]) | rw [hret _ _ rfl rfl rfl]
  exact Steps.refl _
/-- what holds at the law's entry: the machine, the code, the tables' words (any of lw_tbl by 'hts w (by decide +kernel)'), the script of L ints xs at the cell b, what the Statement gives of the start (any of its parts by flat_of_before) -/
def lw_At (p : Program) (s : State) (m : MethodId) (meth : Method) (c : Code) (b L : Nat) (xs : Nat → Int32) : Prop :=
  p.tables.exec = Jvm.exec ∧ c.code = code ∧ meth.sig.returnType = ret ∧ c.maxLocals = 4 ∧ s.vm.findClass R_law = some m.cls ∧ (∀ w ∈ lw_tbl, w.before #[Value.ref b] s = true) ∧ va_X b L xs s s.heap ∧ b < s.heap.size ∧ meth.locks = false ∧ (Jvm.Cond.and given_1 narrow_1).before #[Value.ref b] s = true
theorem wX_get (g : Nat → Nat) (c : Nat → ClassId) (v : Nat → Int32) (F : Nat → Nat → Int32) (rc : Nat) {k : Nat} (h : k < 79) : ∃ e : va_E, (wX g c v F rc)[k]? = some (g k, e) := by
  have h1 : ((wX g c v F rc).map (·.1))[k]? = some (g k) := by
    rw [wX_fst, List.getElem?_map, List.getElem?_range h]; rfl
  rw [List.getElem?_map] at h1
  cases e : (wX g c v F rc)[k]? with
  | none => rw [e] at h1; cases h1
  | some q =>
    rw [e] at h1
    have h2 : q.1 = g k := Option.some.inj h1
    exact ⟨q.2, by rw [← h2]⟩
theorem injX_of {g : Nat → Nat} {c : Nat → ClassId} {v : Nat → Int32} {F : Nat → Nat → Int32} {rc : Nat} {A : Nat → Prop} (h : va_D A (wX g c v F rc)) : injX g := fun i j hi hj e => by
  obtain ⟨a, ha⟩ := wX_get g c v F rc hi
  obtain ⟨b, hb⟩ := wX_get g c v F rc hj
  exact h.1 i j _ _ ha hb e
theorem wM_get (g : Nat → Nat) (c : Nat → ClassId) (v : Nat → Int32) (F : Nat → Nat → Int32) (rc : Nat) {k : Nat} (h : k < 46) : ∃ e : va_E, (wM g c v F rc)[k]? = some (g k, e) := by
  have h1 : ((wM g c v F rc).map (·.1))[k]? = some (g k) := by
    rw [wM_fst, List.getElem?_map, List.getElem?_range h]; rfl
  rw [List.getElem?_map] at h1
  cases e : (wM g c v F rc)[k]? with
  | none => rw [e] at h1; cases h1
  | some q =>
    rw [e] at h1
    have h2 : q.1 = g k := Option.some.inj h1
    exact ⟨q.2, by rw [← h2]⟩
theorem injM_of {g : Nat → Nat} {c : Nat → ClassId} {v : Nat → Int32} {F : Nat → Nat → Int32} {rc : Nat} {A : Nat → Prop} (h : va_D A (wM g c v F rc)) : injM g := fun i j hi hj e => by
  obtain ⟨a, ha⟩ := wM_get g c v F rc hi
  obtain ⟨b, hb⟩ := wM_get g c v F rc hj
  exact h.1 i j _ _ ha hb e
def TIEP (v : Nat → Int32) (F : Nat → Nat → Int32) (v' : Nat → Int32) (F' : Nat → Nat → Int32) : Prop := (v 100).toInt = (v' 30).toInt ∧ (v 120).toInt = (v' 31).toInt ∧ (∀ i : Nat, (i : Int) < (v 100).toInt → nrm (F 39 i).toInt = nrm (F' 24 i).toInt) ∧ (∀ p : Nat, (p : Int) < (v 40).toInt → (0 < (F 58 p).toInt ↔ 0 ≤ (F' 35 p).toInt) ∧ (0 ≤ (F 19 p).toInt ↔ 0 ≤ (F' 8 p).toInt)) ∧ (∀ p : Nat, (v 40).toInt ≤ (p : Int) → (F 58 p).toInt = 0)
theorem TIEP.n {v v' : Nat → Int32} {F F' : Nat → Nat → Int32} (h : TIEP v F v' F') : v' 30 = v 100 := Int32.toInt_inj.mp h.1.symm
theorem TIEP.t {v v' : Nat → Int32} {F F' : Nat → Nat → Int32} (h : TIEP v F v' F') : TX (v 100) (F 39) = TX (v 100) (F' 24) := TX_tie rfl h.2.2.1
theorem TIEP.mv {v v1 v' v2 : Nat → Int32} {F F1 F' F2 : Nat → Nat → Int32} (h : TIEP v F v' F') (hs : (v1 100).toInt = (v2 30).toInt) (hle : (v1 100).toInt ≤ (v 100).toInt) (hl : (v1 120).toInt = (v2 31).toInt) (hp : (v1 40).toInt = (v 40).toInt) (hB : F1 39 = F 39) (hA : F2 24 = F' 24) (hK : ∀ p : Nat, (p : Int) < (v 40).toInt → (0 < (F1 58 p).toInt ↔ 0 ≤ (F2 35 p).toInt) ∧ (0 ≤ (F1 19 p).toInt ↔ 0 ≤ (F2 8 p).toInt)) (hZ : ∀ p : Nat, (v 40).toInt ≤ (p : Int) → (F1 58 p).toInt = 0) : TIEP v1 F1 v2 F2 := by
  refine ⟨hs, hl, fun i hi => ?_, fun p hp1 => hK p (by omega), fun p hp1 => hZ p (by omega)⟩
  rw [hB, hA]
  exact h.2.2.1 i (by omega)
theorem TIEP.to {v v1 v' v2 : Nat → Int32} {F F1 F' F2 : Nat → Nat → Int32} (h : TIEP v F v' F') (hs : v1 100 = v 100) (hl : v1 120 = v 120) (hp : (v1 40).toInt = (v 40).toInt) (hB : F1 39 = F 39) (hN : F1 58 = F 58) (hD : F1 19 = F 19) (h30 : v2 30 = v' 30) (h31 : v2 31 = v' 31) (h24 : F2 24 = F' 24) (h35 : F2 35 = F' 35) (h8 : F2 8 = F' 8) : TIEP v1 F1 v2 F2 := by
  refine h.mv (by rw [hs, h30]; exact h.1) (by rw [hs]; exact Int.le_refl _) (by rw [hl, h31]; exact h.2.1) hp hB h24 (fun p hq => ?_) (fun p hq => ?_)
  · rw [hN, hD, h35, h8]; exact h.2.2.2.1 p hq
  · rw [hN]; exact h.2.2.2.2 p hq
theorem upd_at (f : Nat → Int32) (j : Nat) (x : Int32) : upd f j x j = x := by simp [upd]
theorem upd_no (f : Nat → Int32) {j k : Nat} (x : Int32) (h : k ≠ j) : upd f j x k = f k := by simp [upd, h]
theorem TIEP.plane {v v1 v' v2 : Nat → Int32} {F F1 F' F2 : Nat → Nat → Int32} {j : Nat} (h : TIEP v F v' F') (hj : (j : Int) = (v 40).toInt) (hs : v1 100 = v 100) (hl : v1 120 = v 120) (hp : (v1 40).toInt = (v 40).toInt + 1) (hB : F1 39 = F 39) (hN : F1 58 = F 58) (hD : F1 19 = upd (F 19) j (-1)) (h30 : v2 30 = v' 30) (h31 : v2 31 = v' 31) (h24 : F2 24 = F' 24) (h35 : F2 35 = upd (F' 35) j (-1)) (h8 : F2 8 = upd (F' 8) j (-1)) : TIEP v1 F1 v2 F2 := by
  refine ⟨by rw [hs, h30]; exact h.1, by rw [hl, h31]; exact h.2.1, fun i hi => ?_, fun p hq => ?_, fun p hq => ?_⟩
  · rw [hs] at hi
    rw [hB, h24]; exact h.2.2.1 i hi
  · rw [hN, hD, h35, h8]
    by_cases e : p = j
    · have z := h.2.2.2.2 p (by omega)
      have m1 : (-1 : Int32).toInt = -1 := by decide
      rw [e, upd_at, upd_at, upd_at, m1]
      rw [e] at z
      exact ⟨by omega, by omega⟩
    · rw [upd_no _ _ e, upd_no _ _ e, upd_no _ _ e]
      exact h.2.2.2.1 p (by omega)
  · rw [hN]; exact h.2.2.2.2 p (by omega)
theorem sum_1P {v v1 : Nat → Int32} {F F1 : Nat → Nat → Int32} {r : Int32} {V : Prop} (hb : 0 ≤ (v 40).toInt) (h : (¬ V ∧ r.toInt = -1 ∧ alX v1 F1 = alX v F) ∨ (V ∧ ((10 ≤ (v 40).toInt ∧ r.toInt = -3 ∧ alX v1 F1 = alX v F) ∨ ((v 40).toInt < 10 ∧ r = v 40 ∧ alX v1 F1 = alXS1 (alXS8 (alX v F) (upd (F 19) (v 40).toNatClampNeg (-1))) (v 40 + 1))))) : (((¬ V ∧ r.toInt = -1 ∧ (v1 40).toInt = (v 40).toInt ∧ F1 19 = F 19) ∨ (V ∧ 10 ≤ (v 40).toInt ∧ r.toInt = -3 ∧ (v1 40).toInt = (v 40).toInt ∧ F1 19 = F 19) ∨ (V ∧ (v 40).toInt < 10 ∧ r.toInt = (v 40).toInt ∧ (v1 40).toInt = (v 40).toInt + 1 ∧ F1 19 = upd (F 19) (v 40).toNatClampNeg (-1)))) ∧ ((v1 20).toInt = (v 20).toInt ∧ (v1 11).toInt = (v 11).toInt ∧ (v1 161).toInt = (v 161).toInt) ∧ F1 20 = F 20 ∧ F1 21 = F 21 ∧ F1 39 = F 39 ∧ F1 58 = F 58 := by
  rcases h with ⟨h1, h2, h3⟩ | ⟨h1, ⟨h2, h3, h4⟩ | ⟨h2, h3, h4⟩⟩
  · exact ⟨Or.inl ⟨h1, h2, (congrArg (fun t : ALX => t.2.1.toInt) h3), (congrArg (fun t : ALX => t.2.2.2.2.2.2.2.2) h3)⟩, ⟨(congrArg (fun t : ALX => t.1.toInt) h3), (congrArg (fun t : ALX => t.2.2.1.toInt) h3), (congrArg (fun t : ALX => t.2.2.2.1.toInt) h3)⟩, (congrArg (fun t : ALX => t.2.2.2.2.1) h3), (congrArg (fun t : ALX => t.2.2.2.2.2.1) h3), (congrArg (fun t : ALX => t.2.2.2.2.2.2.1) h3), (congrArg (fun t : ALX => t.2.2.2.2.2.2.2.1) h3)⟩
  · exact ⟨Or.inr (Or.inl ⟨h1, h2, h3, (congrArg (fun t : ALX => t.2.1.toInt) h4), (congrArg (fun t : ALX => t.2.2.2.2.2.2.2.2) h4)⟩), ⟨(congrArg (fun t : ALX => t.1.toInt) h4), (congrArg (fun t : ALX => t.2.2.1.toInt) h4), (congrArg (fun t : ALX => t.2.2.2.1.toInt) h4)⟩, (congrArg (fun t : ALX => t.2.2.2.2.1) h4), (congrArg (fun t : ALX => t.2.2.2.2.2.1) h4), (congrArg (fun t : ALX => t.2.2.2.2.2.2.1) h4), (congrArg (fun t : ALX => t.2.2.2.2.2.2.2.1) h4)⟩
  · refine ⟨Or.inr (Or.inr ⟨h1, h2, by rw [h3], ?_, (congrArg (fun t : ALX => t.2.2.2.2.2.2.2.2) h4)⟩), ⟨(congrArg (fun t : ALX => t.1.toInt) h4), (congrArg (fun t : ALX => t.2.2.1.toInt) h4), (congrArg (fun t : ALX => t.2.2.2.1.toInt) h4)⟩, (congrArg (fun t : ALX => t.2.2.2.2.1) h4), (congrArg (fun t : ALX => t.2.2.2.2.2.1) h4), (congrArg (fun t : ALX => t.2.2.2.2.2.2.1) h4), (congrArg (fun t : ALX => t.2.2.2.2.2.2.2.1) h4)⟩
    have e9 : (v1 40).toInt = (v 40 + 1).toInt := (congrArg (fun t : ALX => t.2.1.toInt) h4)
    rw [e9]
    exact tadd rfl rfl (b := 1) (by decide) (by omega)
theorem sum_law {v v1 v' v2 : Nat → Int32} {F F1 F' F2 : Nat → Nat → Int32} {r1 r2 p0 : Int32} (t : TIEP v F v' F') (hb : (v 120).toInt ≤ 10) (h : (¬ (0 ≤ p0.toInt ∧ p0.toInt ≤ 9999) ∧ r1.toInt = -1 ∧ (v1 120).toInt = (v 120).toInt ∧ (v1 100).toInt = (v 100).toInt) ∨ ((0 ≤ p0.toInt ∧ p0.toInt ≤ 9999) ∧ 10 ≤ (v 120).toInt ∧ r1.toInt = -3 ∧ (v1 120).toInt = (v 120).toInt ∧ (v1 100).toInt = (v 100).toInt) ∨ ((0 ≤ p0.toInt ∧ p0.toInt ≤ 9999) ∧ (v 120).toInt < 10 ∧ (v1 100).toInt = 0 ∧ lans true (v 100) (F 39) (v 120).toInt r1.toInt (v1 120).toInt)) (h2 : (¬ (0 ≤ p0.toInt ∧ p0.toInt ≤ 9999) ∧ r2.toInt = -1 ∧ (v2 31).toInt = (v' 31).toInt ∧ (v2 30).toInt = (v' 30).toInt) ∨ ((0 ≤ p0.toInt ∧ p0.toInt ≤ 9999) ∧ (v' 31).toInt = 10 ∧ r2.toInt = -3 ∧ (v2 31).toInt = (v' 31).toInt ∧ (v2 30).toInt = (v' 30).toInt) ∨ ((0 ≤ p0.toInt ∧ p0.toInt ≤ 9999) ∧ (v' 31).toInt < 10 ∧ (v2 30).toInt = 0 ∧ lans false (v' 30) (F' 24) (v' 31).toInt r2.toInt (v2 31).toInt)) : r1.toInt = r2.toInt ∧ (v1 120).toInt = (v2 31).toInt ∧ (v1 100).toInt = (v2 30).toInt ∧ ((v1 100).toInt = (v 100).toInt ∨ (v1 100).toInt = 0) := by
  have t1 := t.1
  have t2 := t.2.1
  rw [t.n, ← t2] at h2
  rcases h with ⟨a1, a2, a3, a4⟩ | ⟨a1, a2, a3, a4, a5⟩ | ⟨a1, a2, a3, a4⟩
  · rcases h2 with ⟨b1, b2, b3, b4⟩ | ⟨b1, b2, b3, b4, b5⟩ | ⟨b1, b2, b3, b4⟩
    · omega
    · exact absurd b1 a1
    · exact absurd b1 a1
  · rcases h2 with ⟨b1, b2, b3, b4⟩ | ⟨b1, b2, b3, b4, b5⟩ | ⟨b1, b2, b3, b4⟩
    · exact absurd a1 b1
    · omega
    · omega
  · rcases h2 with ⟨b1, b2, b3, b4⟩ | ⟨b1, b2, b3, b4, b5⟩ | ⟨b1, b2, b3, b4⟩
    · exact absurd a1 b1
    · omega
    · have q := lans.one t.t a4 b4
      omega
theorem fc_tie {B B1 A A1 : Nat → Int32} {n m : Int} {p : Int32} (h0 : 0 ≤ n) (ht : ∀ i : Nat, (i : Int) < n → nrm (B i).toInt = nrm (A i).toInt) (h : fc (fun x => x &&& 255) B B1 n m p) (h2 : fc (fun x => vp_nar .byte x.toInt8.toInt32) A A1 n m p) (hm : m ≤ 120) : ∀ i : Nat, (i : Int) < n + m → nrm (B1 i).toInt = nrm (A1 i).toInt := by
  intro i hi
  by_cases z : (i : Int) < n
  · rw [h.1 i z, h2.1 i z]; exact ht i z
  · obtain ⟨k, hk⟩ : ∃ k : Int32, k.toInt = (i : Int) - n := ⟨Int32.ofInt ((i : Int) - n), Int32.toInt_ofInt_of_le (by omega) (by omega)⟩
    have e : (n + k.toInt).toNat = i := by omega
    have a := h.2 k (by omega) (by omega)
    have b := h2.2 k (by omega) (by omega)
    rw [e] at a b
    rw [a, b]
    exact nrm_b _
theorem sum_feed {v v1 v' v2 : Nat → Int32} {F F1 F' F2 : Nat → Nat → Int32} {r1 r2 p0 p1 : Int32} (t : TIEP v F v' F') (hb : 0 ≤ (v 100).toInt) (hl : v1 120 = v 120) (h31 : v2 31 = v' 31) (h35 : F2 35 = F' 35) (h8 : F2 8 = F' 8) (h : ((¬ (1 ≤ p0.toInt ∧ p0.toInt ≤ 4) ∧ r1.toInt = -1 ∧ (v1 100).toInt = (v 100).toInt ∧ alX v1 F1 = alX v F) ∨ ((1 ≤ p0.toInt ∧ p0.toInt ≤ 4) ∧ ((120 < (v 100).toInt + p0.toInt ∧ r1.toInt = -3 ∧ (v1 100).toInt = (v 100).toInt ∧ alX v1 F1 = alX v F) ∨ ((v 100).toInt + p0.toInt ≤ 120 ∧ r1.toInt = (v 100).toInt + p0.toInt ∧ (v1 100).toInt = (v 100).toInt + p0.toInt ∧ exF (fun f9 => alX v1 F1 = alXS6 (alX v F) f9 ∧ fc (fun x => x &&& 255) (F 39) f9 (v 100).toInt p0.toInt p1)))))) (h2 : (¬ (1 ≤ p0.toInt ∧ p0.toInt ≤ 4) ∧ r2.toInt = -1 ∧ (v2 30).toInt = (v' 30).toInt ∧ F2 24 = F' 24) ∨ ((1 ≤ p0.toInt ∧ p0.toInt ≤ 4) ∧ 120 < (v' 30).toInt + p0.toInt ∧ r2.toInt = -3 ∧ (v2 30).toInt = (v' 30).toInt ∧ F2 24 = F' 24) ∨ ((1 ≤ p0.toInt ∧ p0.toInt ≤ 4) ∧ (v' 30).toInt + p0.toInt ≤ 120 ∧ r2.toInt = (v' 30).toInt + p0.toInt ∧ (v2 30).toInt = (v' 30).toInt + p0.toInt ∧ fc (fun x => vp_nar .byte x.toInt8.toInt32) (F' 24) (F2 24) (v' 30).toInt p0.toInt p1)) : (r1.toInt = r2.toInt ∧ (v1 20).toInt = (v 20).toInt ∧ (v1 40).toInt = (v 40).toInt ∧ (v1 11).toInt = (v 11).toInt ∧ (v1 161).toInt = (v 161).toInt) ∧ F1 20 = F 20 ∧ F1 21 = F 21 ∧ TIEP v1 F1 v2 F2 := by
  have t1 := t.1
  have t2 := t.2.1
  have n30 := t.n
  rcases h with ⟨a1, a2, a3, a4⟩ | ⟨a1, ⟨a2, a3, a4, a5⟩ | ⟨a2, a3, a4, f9, a5, a6⟩⟩
  · rcases h2 with ⟨b1, b2, b3, b4⟩ | ⟨b1, b2, b3, b4, b5⟩ | ⟨b1, b2, b3, b4, b5⟩
    · exact ⟨⟨by omega, (congrArg (fun t : ALX => t.1.toInt) a4), (congrArg (fun t : ALX => t.2.1.toInt) a4), (congrArg (fun t : ALX => t.2.2.1.toInt) a4), (congrArg (fun t : ALX => t.2.2.2.1.toInt) a4)⟩, (congrArg (fun t : ALX => t.2.2.2.2.1) a4), (congrArg (fun t : ALX => t.2.2.2.2.2.1) a4), t.mv (by omega) (by omega) (by rw [hl, h31]; exact t2) (congrArg (fun t : ALX => t.2.1.toInt) a4) (congrArg (fun t : ALX => t.2.2.2.2.2.2.1) a4) b4 (fun p hq => by rw [show F1 58 = F 58 from (congrArg (fun t : ALX => t.2.2.2.2.2.2.2.1) a4), show F1 19 = F 19 from (congrArg (fun t : ALX => t.2.2.2.2.2.2.2.2) a4), h35, h8]; exact t.2.2.2.1 p hq) (fun p hq => by rw [show F1 58 = F 58 from (congrArg (fun t : ALX => t.2.2.2.2.2.2.2.1) a4)]; exact t.2.2.2.2 p hq)⟩
    · exact absurd b1 a1
    · exact absurd b1 a1
  · rcases h2 with ⟨b1, b2, b3, b4⟩ | ⟨b1, b2, b3, b4, b5⟩ | ⟨b1, b2, b3, b4, b5⟩
    · exact absurd a1 b1
    · exact ⟨⟨by omega, (congrArg (fun t : ALX => t.1.toInt) a5), (congrArg (fun t : ALX => t.2.1.toInt) a5), (congrArg (fun t : ALX => t.2.2.1.toInt) a5), (congrArg (fun t : ALX => t.2.2.2.1.toInt) a5)⟩, (congrArg (fun t : ALX => t.2.2.2.2.1) a5), (congrArg (fun t : ALX => t.2.2.2.2.2.1) a5), t.mv (by omega) (by omega) (by rw [hl, h31]; exact t2) (congrArg (fun t : ALX => t.2.1.toInt) a5) (congrArg (fun t : ALX => t.2.2.2.2.2.2.1) a5) b5 (fun p hq => by rw [show F1 58 = F 58 from (congrArg (fun t : ALX => t.2.2.2.2.2.2.2.1) a5), show F1 19 = F 19 from (congrArg (fun t : ALX => t.2.2.2.2.2.2.2.2) a5), h35, h8]; exact t.2.2.2.1 p hq) (fun p hq => by rw [show F1 58 = F 58 from (congrArg (fun t : ALX => t.2.2.2.2.2.2.2.1) a5)]; exact t.2.2.2.2 p hq)⟩
    · omega
  · rcases h2 with ⟨b1, b2, b3, b4⟩ | ⟨b1, b2, b3, b4, b5⟩ | ⟨b1, b2, b3, b4, b5⟩
    · exact absurd a1 b1
    · omega
    · rw [n30] at b5
      have e6 : F1 39 = f9 := (congrArg (fun t : ALX => t.2.2.2.2.2.2.1) a5)
      refine ⟨⟨by omega, (congrArg (fun t : ALX => t.1.toInt) a5), (congrArg (fun t : ALX => t.2.1.toInt) a5), (congrArg (fun t : ALX => t.2.2.1.toInt) a5), (congrArg (fun t : ALX => t.2.2.2.1.toInt) a5)⟩, (congrArg (fun t : ALX => t.2.2.2.2.1) a5), (congrArg (fun t : ALX => t.2.2.2.2.2.1) a5), by omega, by rw [hl, h31]; exact t2, fun i hi => ?_, fun p hq => ?_, fun p hq => ?_⟩
      · rw [e6]
        exact fc_tie hb t.2.2.1 a6 b5 (by omega) i (by omega)
      · have e9 : (v1 40).toInt = (v 40).toInt := (congrArg (fun t : ALX => t.2.1.toInt) a5)
        rw [show F1 58 = F 58 from (congrArg (fun t : ALX => t.2.2.2.2.2.2.2.1) a5), show F1 19 = F 19 from (congrArg (fun t : ALX => t.2.2.2.2.2.2.2.2) a5), h35, h8]
        exact t.2.2.2.1 p (by omega)
      · have e9 : (v1 40).toInt = (v 40).toInt := (congrArg (fun t : ALX => t.2.1.toInt) a5)
        rw [show F1 58 = F 58 from (congrArg (fun t : ALX => t.2.2.2.2.2.2.2.1) a5)]
        exact t.2.2.2.2 p (by omega)
theorem nci {x : Int32} (h : 0 ≤ x.toInt) : ((x.toNatClampNeg : Nat) : Int) = x.toInt := by
  show ((x.toInt.toNat : Nat) : Int) = _
  omega
theorem sum_con {v v1 v' v2 : Nat → Int32} {F F1 F' F2 : Nat → Nat → Int32} {r1 r2 p0 p1 p2 : Int32} (t : TIEP v F v' F') (hp : (v 40).toInt = (v' 6).toInt) (hb : 0 ≤ (v 100).toInt) (hl : v1 120 = v 120) (h31 : v2 31 = v' 31) (h24 : F2 24 = F' 24) (h8 : F2 8 = F' 8) (h : ((¬ ((0 ≤ p0.toInt ∧ p0.toInt < (v 40).toInt) ∧ (0 ≤ p1.toInt ∧ p1.toInt ≤ 9999) ∧ (0 ≤ p2.toInt ∧ p2.toInt ≤ 99999)) ∧ r1.toInt = -1 ∧ (v1 100).toInt = (v 100).toInt ∧ alX v1 F1 = alX v F) ∨ (((0 ≤ p0.toInt ∧ p0.toInt < (v 40).toInt) ∧ (0 ≤ p1.toInt ∧ p1.toInt ≤ 9999) ∧ (0 ≤ p2.toInt ∧ p2.toInt ≤ 99999)) ∧ 0 ≤ (F 19 p0.toNatClampNeg).toInt ∧ r1.toInt = -2 ∧ (v1 100).toInt = (v 100).toInt ∧ alX v1 F1 = alX v F) ∨ (((0 ≤ p0.toInt ∧ p0.toInt < (v 40).toInt) ∧ (0 ≤ p1.toInt ∧ p1.toInt ≤ 9999) ∧ (0 ≤ p2.toInt ∧ p2.toInt ≤ 99999)) ∧ (F 19 p0.toNatClampNeg).toInt < 0 ∧ (v1 100).toInt = 0 ∧ cans (v 100) (F 39) r1.toInt ∧ ((r1.toInt ≤ -100 ∧ alX v1 F1 = alX v F) ∨ (1 ≤ r1.toInt ∧ exI (fun x9 => x9.toInt = r1.toInt ∧ alX v1 F1 = alXS7 (alX v F) (upd (F 58) p0.toNatClampNeg x9))))))) (h2 : (¬ ((0 ≤ p0.toInt ∧ p0.toInt < (v' 6).toInt) ∧ (0 ≤ p1.toInt ∧ p1.toInt ≤ 9999) ∧ (0 ≤ p2.toInt ∧ p2.toInt ≤ 99999)) ∧ r2.toInt = -1 ∧ (v2 30).toInt = (v' 30).toInt ∧ F2 35 = F' 35) ∨ (((0 ≤ p0.toInt ∧ p0.toInt < (v' 6).toInt) ∧ (0 ≤ p1.toInt ∧ p1.toInt ≤ 9999) ∧ (0 ≤ p2.toInt ∧ p2.toInt ≤ 99999)) ∧ 0 ≤ (F' 8 p0.toNatClampNeg).toInt ∧ r2.toInt = -2 ∧ (v2 30).toInt = (v' 30).toInt ∧ F2 35 = F' 35) ∨ (((0 ≤ p0.toInt ∧ p0.toInt < (v' 6).toInt) ∧ (0 ≤ p1.toInt ∧ p1.toInt ≤ 9999) ∧ (0 ≤ p2.toInt ∧ p2.toInt ≤ 99999)) ∧ (F' 8 p0.toNatClampNeg).toInt < 0 ∧ (v2 30).toInt = 0 ∧ cans (v' 30) (F' 24) r2.toInt ∧ ((r2.toInt ≤ -100 ∧ F2 35 = F' 35) ∨ (1 ≤ r2.toInt ∧ F2 35 = upd (F' 35) p0.toNatClampNeg p1)))) : (r1.toInt = r2.toInt ∧ (v1 20).toInt = (v 20).toInt ∧ (v1 40).toInt = (v 40).toInt ∧ (v1 11).toInt = (v 11).toInt ∧ (v1 161).toInt = (v 161).toInt) ∧ F1 20 = F 20 ∧ F1 21 = F 21 ∧ TIEP v1 F1 v2 F2 := by
  have t1 := t.1
  have t2 := t.2.1
  rw [← hp, t.n] at h2
  rcases h with ⟨a1, a2, a3, a4⟩ | ⟨a1, a2, a3, a4, a5⟩ | ⟨a1, a2, a3, a4, a5⟩
  · rcases h2 with ⟨b1, b2, b3, b4⟩ | ⟨b1, b2, b3, b4, b5⟩ | ⟨b1, b2, b3, b4, b5⟩
    · exact ⟨⟨by omega, (congrArg (fun t : ALX => t.1.toInt) a4), (congrArg (fun t : ALX => t.2.1.toInt) a4), (congrArg (fun t : ALX => t.2.2.1.toInt) a4), (congrArg (fun t : ALX => t.2.2.2.1.toInt) a4)⟩, (congrArg (fun t : ALX => t.2.2.2.2.1) a4), (congrArg (fun t : ALX => t.2.2.2.2.2.1) a4), t.mv (by omega) (by omega) (by rw [hl, h31]; exact t2) (congrArg (fun t : ALX => t.2.1.toInt) a4) (congrArg (fun t : ALX => t.2.2.2.2.2.2.1) a4) h24 (fun p hq => by rw [show F1 58 = F 58 from (congrArg (fun t : ALX => t.2.2.2.2.2.2.2.1) a4), show F1 19 = F 19 from (congrArg (fun t : ALX => t.2.2.2.2.2.2.2.2) a4), b4, h8]; exact t.2.2.2.1 p hq) (fun p hq => by rw [show F1 58 = F 58 from (congrArg (fun t : ALX => t.2.2.2.2.2.2.2.1) a4)]; exact t.2.2.2.2 p hq)⟩
    · exact absurd b1 a1
    · exact absurd b1 a1
  · have n0 := nci a1.1.1
    have k0 := (t.2.2.2.1 p0.toNatClampNeg (by omega)).2
    rcases h2 with ⟨b1, b2, b3, b4⟩ | ⟨b1, b2, b3, b4, b5⟩ | ⟨b1, b2, b3, b4, b5⟩
    · exact absurd a1 b1
    · exact ⟨⟨by omega, (congrArg (fun t : ALX => t.1.toInt) a5), (congrArg (fun t : ALX => t.2.1.toInt) a5), (congrArg (fun t : ALX => t.2.2.1.toInt) a5), (congrArg (fun t : ALX => t.2.2.2.1.toInt) a5)⟩, (congrArg (fun t : ALX => t.2.2.2.2.1) a5), (congrArg (fun t : ALX => t.2.2.2.2.2.1) a5), t.mv (by omega) (by omega) (by rw [hl, h31]; exact t2) (congrArg (fun t : ALX => t.2.1.toInt) a5) (congrArg (fun t : ALX => t.2.2.2.2.2.2.1) a5) h24 (fun p hq => by rw [show F1 58 = F 58 from (congrArg (fun t : ALX => t.2.2.2.2.2.2.2.1) a5), show F1 19 = F 19 from (congrArg (fun t : ALX => t.2.2.2.2.2.2.2.2) a5), b5, h8]; exact t.2.2.2.1 p hq) (fun p hq => by rw [show F1 58 = F 58 from (congrArg (fun t : ALX => t.2.2.2.2.2.2.2.1) a5)]; exact t.2.2.2.2 p hq)⟩
    · omega
  · have n0 := nci a1.1.1
    have k0 := (t.2.2.2.1 p0.toNatClampNeg (by omega)).2
    rcases h2 with ⟨b1, b2, b3, b4⟩ | ⟨b1, b2, b3, b4, b5⟩ | ⟨b1, b2, b3, b4, b5⟩
    · exact absurd a1 b1
    · omega
    · have q := cans.one t.t a4 b4
      rcases a5 with ⟨a5, a6⟩ | ⟨a5, x9, a6, a7⟩
      · rcases b5 with ⟨b5, b6⟩ | ⟨b5, b6⟩
        · exact ⟨⟨by omega, (congrArg (fun t : ALX => t.1.toInt) a6), (congrArg (fun t : ALX => t.2.1.toInt) a6), (congrArg (fun t : ALX => t.2.2.1.toInt) a6), (congrArg (fun t : ALX => t.2.2.2.1.toInt) a6)⟩, (congrArg (fun t : ALX => t.2.2.2.2.1) a6), (congrArg (fun t : ALX => t.2.2.2.2.2.1) a6), t.mv (by omega) (by omega) (by rw [hl, h31]; exact t2) (congrArg (fun t : ALX => t.2.1.toInt) a6) (congrArg (fun t : ALX => t.2.2.2.2.2.2.1) a6) h24 (fun p hq => by rw [show F1 58 = F 58 from (congrArg (fun t : ALX => t.2.2.2.2.2.2.2.1) a6), show F1 19 = F 19 from (congrArg (fun t : ALX => t.2.2.2.2.2.2.2.2) a6), b6, h8]; exact t.2.2.2.1 p hq) (fun p hq => by rw [show F1 58 = F 58 from (congrArg (fun t : ALX => t.2.2.2.2.2.2.2.1) a6)]; exact t.2.2.2.2 p hq)⟩
        · omega
      · rcases b5 with ⟨b5, b6⟩ | ⟨b5, b6⟩
        · omega
        · have e7 : F1 58 = upd (F 58) p0.toNatClampNeg x9 := (congrArg (fun t : ALX => t.2.2.2.2.2.2.2.1) a7)
          refine ⟨⟨by omega, (congrArg (fun t : ALX => t.1.toInt) a7), (congrArg (fun t : ALX => t.2.1.toInt) a7), (congrArg (fun t : ALX => t.2.2.1.toInt) a7), (congrArg (fun t : ALX => t.2.2.2.1.toInt) a7)⟩, (congrArg (fun t : ALX => t.2.2.2.2.1) a7), (congrArg (fun t : ALX => t.2.2.2.2.2.1) a7), t.mv (by omega) (by omega) (by rw [hl, h31]; exact t2) (congrArg (fun t : ALX => t.2.1.toInt) a7) (congrArg (fun t : ALX => t.2.2.2.2.2.2.1) a7) h24 (fun p hq => ?_) (fun p hq => ?_)⟩
          · rw [e7, show F1 19 = F 19 from (congrArg (fun t : ALX => t.2.2.2.2.2.2.2.2) a7), b6, h8]
            have k1 := t.2.2.2.1 p hq
            by_cases e : p = p0.toNatClampNeg
            · refine ⟨?_, k1.2⟩
              rw [e, upd_at, upd_at]
              omega
            · rw [upd_no _ _ e, upd_no _ _ e]; exact k1
          · rw [e7, upd_no _ _ (by omega)]; exact t.2.2.2.2 p hq
theorem sum_gb {v v1 v' v2 : Nat → Int32} {F F1 F' F2 : Nat → Nat → Int32} {r1 r2 p0 : Int32} (t : TIEP v F v' F') (hp : (v 40).toInt = (v' 6).toInt) (hd : 0 ≤ (v' 1).toInt) (hs : v1 100 = v 100) (hl : v1 120 = v 120) (h30 : v2 30 = v' 30) (h31 : v2 31 = v' 31) (h24 : F2 24 = F' 24) (h35 : F2 35 = F' 35) (h : ((¬ ((0 ≤ p0.toInt ∧ p0.toInt < (v 40).toInt) ∧ (F 19 p0.toNatClampNeg).toInt < 0 ∧ 0 < (F 58 p0.toNatClampNeg).toInt) ∧ alX v1 F1 = alX v F) ∨ (((0 ≤ p0.toInt ∧ p0.toInt < (v 40).toInt) ∧ (F 19 p0.toNatClampNeg).toInt < 0 ∧ 0 < (F 58 p0.toNatClampNeg).toInt) ∧ exI (fun x9 => 0 ≤ x9.toInt ∧ alX v1 F1 = alXS8 (alX v F) (upd (F 19) p0.toNatClampNeg x9))))) (h2 : (¬ ((0 ≤ p0.toInt ∧ p0.toInt < (v' 6).toInt) ∧ (F' 8 p0.toNatClampNeg).toInt < 0 ∧ 0 ≤ (F' 35 p0.toNatClampNeg).toInt) ∧ F2 8 = F' 8) ∨ (((0 ≤ p0.toInt ∧ p0.toInt < (v' 6).toInt) ∧ (F' 8 p0.toNatClampNeg).toInt < 0 ∧ 0 ≤ (F' 35 p0.toNatClampNeg).toInt) ∧ F2 8 = upd (F' 8) p0.toNatClampNeg (v' 1))) : ((v1 20).toInt = (v 20).toInt ∧ (v1 40).toInt = (v 40).toInt ∧ (v1 11).toInt = (v 11).toInt ∧ (v1 161).toInt = (v 161).toInt) ∧ F1 20 = F 20 ∧ F1 21 = F 21 ∧ TIEP v1 F1 v2 F2 := by
  have t1 := t.1
  have t2 := t.2.1
  rw [← hp] at h2
  have i1 : (v1 100).toInt = (v2 30).toInt := by rw [hs, h30]; exact t1
  have i2 : (v1 100).toInt ≤ (v 100).toInt := by rw [hs]; exact Int.le_refl _
  have i3 : (v1 120).toInt = (v2 31).toInt := by rw [hl, h31]; exact t2
  rcases h with ⟨a1, a2⟩ | ⟨a1, x9, a2, a3⟩
  · rcases h2 with ⟨b1, b2⟩ | ⟨b1, b2⟩
    · exact ⟨⟨(congrArg (fun t : ALX => t.1.toInt) a2), (congrArg (fun t : ALX => t.2.1.toInt) a2), (congrArg (fun t : ALX => t.2.2.1.toInt) a2), (congrArg (fun t : ALX => t.2.2.2.1.toInt) a2)⟩, (congrArg (fun t : ALX => t.2.2.2.2.1) a2), (congrArg (fun t : ALX => t.2.2.2.2.2.1) a2), t.mv i1 i2 i3 (congrArg (fun t : ALX => t.2.1.toInt) a2) (congrArg (fun t : ALX => t.2.2.2.2.2.2.1) a2) h24 (fun p hq => by rw [show F1 58 = F 58 from (congrArg (fun t : ALX => t.2.2.2.2.2.2.2.1) a2), show F1 19 = F 19 from (congrArg (fun t : ALX => t.2.2.2.2.2.2.2.2) a2), h35, b2]; exact t.2.2.2.1 p hq) (fun p hq => by rw [show F1 58 = F 58 from (congrArg (fun t : ALX => t.2.2.2.2.2.2.2.1) a2)]; exact t.2.2.2.2 p hq)⟩
    · exfalso
      have n0 := nci b1.1.1
      have k0 := t.2.2.2.1 p0.toNatClampNeg (by omega)
      omega
  · have n0 := nci a1.1.1
    have k0 := t.2.2.2.1 p0.toNatClampNeg (by omega)
    rcases h2 with ⟨b1, b2⟩ | ⟨b1, b2⟩
    · exfalso
      omega
    · have e7 : F1 19 = upd (F 19) p0.toNatClampNeg x9 := (congrArg (fun t : ALX => t.2.2.2.2.2.2.2.2) a3)
      refine ⟨⟨(congrArg (fun t : ALX => t.1.toInt) a3), (congrArg (fun t : ALX => t.2.1.toInt) a3), (congrArg (fun t : ALX => t.2.2.1.toInt) a3), (congrArg (fun t : ALX => t.2.2.2.1.toInt) a3)⟩, (congrArg (fun t : ALX => t.2.2.2.2.1) a3), (congrArg (fun t : ALX => t.2.2.2.2.2.1) a3), t.mv i1 i2 i3 (congrArg (fun t : ALX => t.2.1.toInt) a3) (congrArg (fun t : ALX => t.2.2.2.2.2.2.1) a3) h24 (fun p hq => ?_) (fun p hq => by rw [show F1 58 = F 58 from (congrArg (fun t : ALX => t.2.2.2.2.2.2.2.1) a3)]; exact t.2.2.2.2 p hq)⟩
      rw [e7, show F1 58 = F 58 from (congrArg (fun t : ALX => t.2.2.2.2.2.2.2.1) a3), b2, h35]
      have k1 := t.2.2.2.1 p hq
      by_cases e : p = p0.toNatClampNeg
      · refine ⟨k1.1, ?_⟩
        rw [e, upd_at, upd_at]
        omega
      · rw [upd_no _ _ e, upd_no _ _ e]; exact k1

