/-! the grammar of a law's text, as one function with fuel; c: five digits that a digit follows are taken as a number (so the class; it stumbles over the sixth later), or not (so the reference) -/
abbrev PRes : Type := Nat ⊕ Nat
abbrev isDg (x : Int) : Prop := 48 ≤ x ∧ x ≤ 57
abbrev isNm (x : Int) : Prop := x = 100 ∨ x = 104 ∨ x = 108 ∨ x = 119 ∨ x = 107 ∨ x = 110
/-- how many digits stand at p, at most k -/
def nDg (T : Nat → Int) (p : Nat) : Nat → Nat
  | 0 => 0
  | k + 1 => if isDg (T p) then nDg T (p + 1) k + 1 else 0
def bnd (x : Option PRes) (g : Nat → Option PRes) : Option PRes := match x with
  | some (.inl q) => g q
  | y => y
def prN (c : Bool) (T : Nat → Int) (p : Nat) : PRes := if nDg T p 5 = 0 then .inr p else if c = false ∧ isDg (T (p + nDg T p 5)) then .inr (p + nDg T p 5) else .inl (p + nDg T p 5)
def pr (c : Bool) (T : Nat → Int) : Nat → Nat → Nat → Nat → Option PRes
  | 0, _, _, _ => none
  | f + 1, 0, d, p =>
    if isNm (T p) then some (.inl (p + 1))
    else if T p = 45 then (if d < 8 then pr c T f 0 (d + 1) (p + 1) else some (.inr p))
    else if T p = 40 then (if d < 8 then bnd (pr c T f 6 (d + 1) (p + 1)) (fun q => if T q = 41 then some (.inl (q + 1)) else some (.inr q)) else some (.inr p))
    else some (prN c T p)
  | f + 1, 1, d, p => bnd (pr c T f 0 d p) (fun q => pr c T f 2 d q)
  | f + 1, 2, d, p => if T p = 42 ∨ T p = 47 then bnd (pr c T f 0 d (p + 1)) (fun q => pr c T f 2 d q) else some (.inl p)
  | f + 1, 3, d, p => bnd (pr c T f 1 d p) (fun q => pr c T f 4 d q)
  | f + 1, 4, d, p => if T p = 43 ∨ T p = 45 then bnd (pr c T f 1 d (p + 1)) (fun q => pr c T f 4 d q) else some (.inl p)
  | f + 1, 5, d, p => bnd (pr c T f 3 d p) (fun q => if T q = 60 ∨ T q = 61 ∨ T q = 62 then pr c T f 3 d (q + 1) else some (.inl q))
  | f + 1, _, d, p => bnd (pr c T f 5 d p) (fun q => if T q = 63 then (if d < 8 then bnd (pr c T f 6 (d + 1) (q + 1)) (fun r => if T r = 58 then pr c T f 6 (d + 1) (r + 1) else some (.inr r)) else some (.inr q)) else some (.inl q))
def ole (a b : Option PRes) : Prop := ∀ r, a = some r → b = some r
theorem ole.rf (a : Option PRes) : ole a a := fun _ h => h
theorem ole.bnd {a a' : Option PRes} {g g' : Nat → Option PRes} (h : ole a a') (hg : ∀ q, ole (g q) (g' q)) : ole (bnd a g) (bnd a' g') := by
  intro r hr
  cases a with
  | none => cases hr
  | some x =>
    rw [h x rfl]
    cases x with
    | inl q => exact hg q r hr
    | inr q => exact hr
theorem ole.ite {c : Prop} [Decidable c] {a a' b b' : Option PRes} (h : ole a a') (h2 : ole b b') : ole (if c then a else b) (if c then a' else b') := by
  by_cases e : c
  · rw [if_pos e, if_pos e]; exact h
  · rw [if_neg e, if_neg e]; exact h2
theorem pr_up (c : Bool) (T : Nat → Int) : ∀ (f : Nat) (k : Nat) (d p : Nat), ole (pr c T f k d p) (pr c T (f + 1) k d p)
  | 0, _, _, _ => fun _ h => by cases h
  | f + 1, 0, d, p => ole.ite (ole.rf _) (ole.ite (ole.ite (pr_up c T f 0 (d + 1) (p + 1)) (ole.rf _)) (ole.ite (ole.ite (ole.bnd (pr_up c T f 6 (d + 1) (p + 1)) (fun _ => ole.rf _)) (ole.rf _)) (ole.rf _)))
  | f + 1, 1, d, p => ole.bnd (pr_up c T f 0 d p) (fun q => pr_up c T f 2 d q)
  | f + 1, 2, d, p => ole.ite (ole.bnd (pr_up c T f 0 d (p + 1)) (fun q => pr_up c T f 2 d q)) (ole.rf _)
  | f + 1, 3, d, p => ole.bnd (pr_up c T f 1 d p) (fun q => pr_up c T f 4 d q)
  | f + 1, 4, d, p => ole.ite (ole.bnd (pr_up c T f 1 d (p + 1)) (fun q => pr_up c T f 4 d q)) (ole.rf _)
  | f + 1, 5, d, p => ole.bnd (pr_up c T f 3 d p) (fun q => ole.ite (pr_up c T f 3 d (q + 1)) (ole.rf _))
  | f + 1, k + 6, d, p => ole.bnd (pr_up c T f 5 d p) (fun q => ole.ite (ole.ite (ole.bnd (pr_up c T f 6 (d + 1) (q + 1)) (fun r => ole.ite (pr_up c T f 6 (d + 1) (r + 1)) (ole.rf _))) (ole.rf _)) (ole.rf _))
theorem pr_le (c : Bool) (T : Nat → Int) {f : Nat} {k : Nat} {d p : Nat} : ∀ (n : Nat), ole (pr c T f k d p) (pr c T (f + n) k d p)
  | 0 => ole.rf _
  | n + 1 => fun r h => pr_up c T (f + n) k d p r (pr_le c T n r h)
def PR (c : Bool) (T : Nat → Int) (k : Nat) (d p : Nat) (r : PRes) : Prop := ∃ f, pr c T f k d p = some r
theorem PR.one {c : Bool} {T : Nat → Int} {k : Nat} {d p : Nat} {r r' : PRes} (h : PR c T k d p r) (h' : PR c T k d p r') : r = r' := by
  obtain ⟨f, hf⟩ := h
  obtain ⟨f', hf'⟩ := h'
  have h1 := pr_le c T f' r hf
  have h2 := pr_le c T f r' hf'
  rw [Nat.add_comm f' f] at h2
  rw [h1] at h2
  exact Option.some.inj h2
theorem PR.two {c : Bool} {T : Nat → Int} {k k' : Nat} {d p d' p' : Nat} {r r' : PRes} (h : PR c T k d p r) (h' : PR c T k' d' p' r') : ∃ f, pr c T f k d p = some r ∧ pr c T f k' d' p' = some r' := by
  obtain ⟨f, hf⟩ := h
  obtain ⟨f', hf'⟩ := h'
  refine ⟨f + f', pr_le c T f' r hf, ?_⟩
  rw [Nat.add_comm f f']
  exact pr_le c T f r' hf'
/-! the class's way and the reference's -/
def rl (T : Nat → Int) (r r' : PRes) : Prop := r = r' ∨ ∃ q, r = .inl q ∧ r' = .inr q ∧ isDg (T q)
def RLo (T : Nat → Int) (a b : Option PRes) : Prop := ∀ r, a = some r → ∃ r', b = some r' ∧ rl T r r'
theorem RLo.rf (T : Nat → Int) (a : Option PRes) : RLo T a a := fun r h => ⟨r, h, Or.inl rfl⟩
theorem RLo.ite {T : Nat → Int} {c : Prop} [Decidable c] {a a' b b' : Option PRes} (h : RLo T a a') (h2 : RLo T b b') : RLo T (if c then a else b) (if c then a' else b') := by
  by_cases e : c
  · rw [if_pos e, if_pos e]; exact h
  · rw [if_neg e, if_neg e]; exact h2
theorem RLo.bnd {T : Nat → Int} {a b : Option PRes} {g h : Nat → Option PRes} (hab : RLo T a b) (hg : ∀ q, RLo T (g q) (h q)) (hd : ∀ q, isDg (T q) → ∀ r, g q = some r → r = .inl q ∨ r = .inr q) : RLo T (bnd a g) (bnd b h) := by
  intro r hr
  cases a with
  | none => cases hr
  | some x =>
    obtain ⟨r', h1, h2⟩ := hab x rfl
    rw [h1]
    cases x with
    | inr q =>
      have hr : some (Sum.inr q) = some r := hr
      rcases h2 with rfl | ⟨q', h3, -, -⟩
      · exact ⟨_, hr, Or.inl rfl⟩
      · cases h3
    | inl q =>
      have hr : g q = some r := hr
      rcases h2 with rfl | ⟨q', h3, h4, h5⟩
      · exact hg q r hr
      · cases h3
        subst h4
        refine ⟨.inr q, rfl, ?_⟩
        rcases hd q h5 r hr with rfl | rfl
        · exact Or.inr ⟨q, rfl, rfl, h5⟩
        · exact Or.inl rfl
theorem dg_2 {c : Bool} {T : Nat → Int} {f d q : Nat} {r : PRes} (h : isDg (T q)) (hr : pr c T f 2 d q = some r) : r = .inl q ∨ r = .inr q := by
  cases f with
  | zero => cases hr
  | succ f =>
    have hr : (if T q = 42 ∨ T q = 47 then _ else _) = some r := hr
    rw [if_neg (by have h1 : 48 ≤ T q ∧ T q ≤ 57 := h; omega)] at hr
    cases hr
    exact Or.inl rfl
theorem dg_4 {c : Bool} {T : Nat → Int} {f d q : Nat} {r : PRes} (h : isDg (T q)) (hr : pr c T f 4 d q = some r) : r = .inl q ∨ r = .inr q := by
  cases f with
  | zero => cases hr
  | succ f =>
    have hr : (if T q = 43 ∨ T q = 45 then _ else _) = some r := hr
    rw [if_neg (by have h1 : 48 ≤ T q ∧ T q ≤ 57 := h; omega)] at hr
    cases hr
    exact Or.inl rfl
theorem dg_i {T : Nat → Int} {q : Nat} {c : Prop} [Decidable c] {a b : Option PRes} {r : PRes} (hc : ¬ c) (hb : b = some (.inl q) ∨ b = some (.inr q)) (hr : (if c then a else b) = some r) : r = .inl q ∨ r = .inr q := by
  rw [if_neg hc] at hr
  rcases hb with hb | hb
  · rw [hb] at hr; cases hr; exact Or.inl rfl
  · rw [hb] at hr; cases hr; exact Or.inr rfl
theorem prN_rel (T : Nat → Int) (p : Nat) : rl T (prN true T p) (prN false T p) := by
  unfold prN
  by_cases h : nDg T p 5 = 0
  · rw [if_pos h, if_pos h]; exact Or.inl rfl
  · rw [if_neg h, if_neg h, if_neg (by simp)]
    by_cases h2 : isDg (T (p + nDg T p 5))
    · rw [if_pos ⟨rfl, h2⟩]; exact Or.inr ⟨_, rfl, rfl, h2⟩
    · rw [if_neg (fun q => h2 q.2)]; exact Or.inl rfl
theorem pr_rel (T : Nat → Int) : ∀ (f : Nat) (k : Nat) (d p : Nat), RLo T (pr true T f k d p) (pr false T f k d p)
  | 0, _, _, _ => fun _ h => by cases h
  | f + 1, 0, d, p => RLo.ite (RLo.rf T _) (RLo.ite (RLo.ite (pr_rel T f 0 (d + 1) (p + 1)) (RLo.rf T _)) (RLo.ite (RLo.ite (RLo.bnd (pr_rel T f 6 (d + 1) (p + 1)) (fun _ => RLo.rf T _) (fun q h r hr => dg_i (T := T) (by have h1 : 48 ≤ T q ∧ T q ≤ 57 := h; omega) (Or.inr rfl) hr)) (RLo.rf T _)) (fun r hr => ⟨_, rfl, by cases hr; exact prN_rel T p⟩)))
  | f + 1, 1, d, p => RLo.bnd (pr_rel T f 0 d p) (fun q => pr_rel T f 2 d q) (fun q h r hr => dg_2 h hr)
  | f + 1, 2, d, p => RLo.ite (RLo.bnd (pr_rel T f 0 d (p + 1)) (fun q => pr_rel T f 2 d q) (fun q h r hr => dg_2 h hr)) (RLo.rf T _)
  | f + 1, 3, d, p => RLo.bnd (pr_rel T f 1 d p) (fun q => pr_rel T f 4 d q) (fun q h r hr => dg_4 h hr)
  | f + 1, 4, d, p => RLo.ite (RLo.bnd (pr_rel T f 1 d (p + 1)) (fun q => pr_rel T f 4 d q) (fun q h r hr => dg_4 h hr)) (RLo.rf T _)
  | f + 1, 5, d, p => RLo.bnd (pr_rel T f 3 d p) (fun q => RLo.ite (pr_rel T f 3 d (q + 1)) (RLo.rf T _)) (fun q h r hr => dg_i (T := T) (by have h1 : 48 ≤ T q ∧ T q ≤ 57 := h; omega) (Or.inl rfl) hr)
  | f + 1, k + 6, d, p => RLo.bnd (pr_rel T f 5 d p) (fun q => RLo.ite (RLo.ite (RLo.bnd (pr_rel T f 6 (d + 1) (q + 1)) (fun r => RLo.ite (pr_rel T f 6 (d + 1) (r + 1)) (RLo.rf T _)) (fun q h r hr => dg_i (T := T) (by have h1 : 48 ≤ T q ∧ T q ≤ 57 := h; omega) (Or.inr rfl) hr)) (RLo.rf T _)) (RLo.rf T _)) (fun q h r hr => dg_i (T := T) (by have h1 : 48 ≤ T q ∧ T q ≤ 57 := h; omega) (Or.inl rfl) hr)
theorem PR.rel {T : Nat → Int} {k d p : Nat} {r r' : PRes} (h : PR true T k d p r) (h' : PR false T k d p r') : rl T r r' := by
  obtain ⟨f, hf⟩ := h
  obtain ⟨r2, h1, h2⟩ := pr_rel T f k d p r hf
  rw [PR.one h' ⟨f, h1⟩]
  exact h2
/-! the rules -/
theorem PR.name {c : Bool} {T : Nat → Int} {d p : Nat} (h : isNm (T p)) : PR c T 0 d p (.inl (p + 1)) := ⟨1, by show (if _ then _ else _) = _; rw [if_pos h]⟩
theorem PR.num {c : Bool} {T : Nat → Int} {d p : Nat} (h : ¬ isNm (T p)) (h1 : ¬ T p = 45) (h2 : ¬ T p = 40) : PR c T 0 d p (prN c T p) := ⟨1, by show (if _ then _ else _) = _; rw [if_neg h, if_neg h1, if_neg h2]⟩
theorem PR.neg {c : Bool} {T : Nat → Int} {d p : Nat} {r : PRes} (h : T p = 45) (hd : d < 8) (h1 : PR c T 0 (d + 1) (p + 1) r) : PR c T 0 d p r := by
  obtain ⟨f, hf⟩ := h1
  exact ⟨f + 1, by show (if _ then _ else _) = _; rw [if_neg (by rw [h]; decide), if_pos h, if_pos hd]; exact hf⟩
theorem PR.deepN {c : Bool} {T : Nat → Int} {d p : Nat} (h : T p = 45 ∨ T p = 40) (hd : ¬ d < 8) : PR c T 0 d p (.inr p) := by
  refine ⟨1, ?_⟩
  show (if _ then _ else _) = _
  rcases h with h | h
  · rw [if_neg (by rw [h]; decide), if_pos h, if_neg hd]
  · rw [if_neg (by rw [h]; decide), if_neg (by rw [h]; decide), if_pos h, if_neg hd]
theorem PR.par {c : Bool} {T : Nat → Int} {d p q : Nat} (h : T p = 40) (hd : d < 8) (h1 : PR c T 6 (d + 1) (p + 1) (.inl q)) : PR c T 0 d p (if T q = 41 then .inl (q + 1) else .inr q) := by
  obtain ⟨f, hf⟩ := h1
  refine ⟨f + 1, ?_⟩
  show (if _ then _ else _) = _
  rw [if_neg (by rw [h]; decide), if_neg (by rw [h]; decide), if_pos h, if_pos hd, hf]
  show (if _ then _ else _) = _
  by_cases e : T q = 41
  · rw [if_pos e, if_pos e]
  · rw [if_neg e, if_neg e]
theorem PR.parB {c : Bool} {T : Nat → Int} {d p q : Nat} (h : T p = 40) (hd : d < 8) (h1 : PR c T 6 (d + 1) (p + 1) (.inr q)) : PR c T 0 d p (.inr q) := by
  obtain ⟨f, hf⟩ := h1
  refine ⟨f + 1, ?_⟩
  show (if _ then _ else _) = _
  rw [if_neg (by rw [h]; decide), if_neg (by rw [h]; decide), if_pos h, if_pos hd, hf]
  rfl
theorem PR.p {c : Bool} {T : Nat → Int} {d p q : Nat} {r : PRes} (h : PR c T 0 d p (.inl q)) (h1 : PR c T 2 d q r) : PR c T 1 d p r := by
  obtain ⟨f, a, b⟩ := PR.two h h1
  exact ⟨f + 1, by show bnd _ _ = _; rw [a]; exact b⟩
theorem PR.pB {c : Bool} {T : Nat → Int} {d p q : Nat} (h : PR c T 0 d p (.inr q)) : PR c T 1 d p (.inr q) := by
  obtain ⟨f, a⟩ := h
  exact ⟨f + 1, by show bnd _ _ = _; rw [a]; rfl⟩
theorem PR.pl {c : Bool} {T : Nat → Int} {d p q : Nat} {r : PRes} (e : T p = 42 ∨ T p = 47) (h : PR c T 0 d (p + 1) (.inl q)) (h1 : PR c T 2 d q r) : PR c T 2 d p r := by
  obtain ⟨f, a, b⟩ := PR.two h h1
  exact ⟨f + 1, by show (if _ then _ else _) = _; rw [if_pos e, a]; exact b⟩
theorem PR.plB {c : Bool} {T : Nat → Int} {d p q : Nat} (e : T p = 42 ∨ T p = 47) (h : PR c T 0 d (p + 1) (.inr q)) : PR c T 2 d p (.inr q) := by
  obtain ⟨f, a⟩ := h
  exact ⟨f + 1, by show (if _ then _ else _) = _; rw [if_pos e, a]; rfl⟩
theorem PR.plE {c : Bool} {T : Nat → Int} {d p : Nat} (e : ¬ (T p = 42 ∨ T p = 47)) : PR c T 2 d p (.inl p) := ⟨1, by show (if _ then _ else _) = _; rw [if_neg e]⟩
theorem PR.s {c : Bool} {T : Nat → Int} {d p q : Nat} {r : PRes} (h : PR c T 1 d p (.inl q)) (h1 : PR c T 4 d q r) : PR c T 3 d p r := by
  obtain ⟨f, a, b⟩ := PR.two h h1
  exact ⟨f + 1, by show bnd _ _ = _; rw [a]; exact b⟩
theorem PR.sB {c : Bool} {T : Nat → Int} {d p q : Nat} (h : PR c T 1 d p (.inr q)) : PR c T 3 d p (.inr q) := by
  obtain ⟨f, a⟩ := h
  exact ⟨f + 1, by show bnd _ _ = _; rw [a]; rfl⟩
theorem PR.sl {c : Bool} {T : Nat → Int} {d p q : Nat} {r : PRes} (e : T p = 43 ∨ T p = 45) (h : PR c T 1 d (p + 1) (.inl q)) (h1 : PR c T 4 d q r) : PR c T 4 d p r := by
  obtain ⟨f, a, b⟩ := PR.two h h1
  exact ⟨f + 1, by show (if _ then _ else _) = _; rw [if_pos e, a]; exact b⟩
theorem PR.slB {c : Bool} {T : Nat → Int} {d p q : Nat} (e : T p = 43 ∨ T p = 45) (h : PR c T 1 d (p + 1) (.inr q)) : PR c T 4 d p (.inr q) := by
  obtain ⟨f, a⟩ := h
  exact ⟨f + 1, by show (if _ then _ else _) = _; rw [if_pos e, a]; rfl⟩
theorem PR.slE {c : Bool} {T : Nat → Int} {d p : Nat} (e : ¬ (T p = 43 ∨ T p = 45)) : PR c T 4 d p (.inl p) := ⟨1, by show (if _ then _ else _) = _; rw [if_neg e]⟩
theorem PR.c {c : Bool} {T : Nat → Int} {d p q : Nat} {r : PRes} (h : PR c T 3 d p (.inl q)) (e : T q = 60 ∨ T q = 61 ∨ T q = 62) (h1 : PR c T 3 d (q + 1) r) : PR c T 5 d p r := by
  obtain ⟨f, a, b⟩ := PR.two h h1
  exact ⟨f + 1, by show bnd _ _ = _; rw [a]; show (if _ then _ else _) = _; rw [if_pos e]; exact b⟩
theorem PR.cE {c : Bool} {T : Nat → Int} {d p q : Nat} (h : PR c T 3 d p (.inl q)) (e : ¬ (T q = 60 ∨ T q = 61 ∨ T q = 62)) : PR c T 5 d p (.inl q) := by
  obtain ⟨f, a⟩ := h
  exact ⟨f + 1, by show bnd _ _ = _; rw [a]; show (if _ then _ else _) = _; rw [if_neg e]⟩
theorem PR.cB {c : Bool} {T : Nat → Int} {d p q : Nat} (h : PR c T 3 d p (.inr q)) : PR c T 5 d p (.inr q) := by
  obtain ⟨f, a⟩ := h
  exact ⟨f + 1, by show bnd _ _ = _; rw [a]; rfl⟩
theorem PR.eB {c : Bool} {T : Nat → Int} {d p q : Nat} (h : PR c T 5 d p (.inr q)) : PR c T 6 d p (.inr q) := by
  obtain ⟨f, a⟩ := h
  exact ⟨f + 1, by show bnd _ _ = _; rw [a]; rfl⟩
theorem PR.e0 {c : Bool} {T : Nat → Int} {d p q : Nat} (h : PR c T 5 d p (.inl q)) (e : ¬ T q = 63) : PR c T 6 d p (.inl q) := by
  obtain ⟨f, a⟩ := h
  exact ⟨f + 1, by show bnd _ _ = _; rw [a]; show (if _ then _ else _) = _; rw [if_neg e]⟩
theorem PR.eD {c : Bool} {T : Nat → Int} {d p q : Nat} (h : PR c T 5 d p (.inl q)) (e : T q = 63) (hd : ¬ d < 8) : PR c T 6 d p (.inr q) := by
  obtain ⟨f, a⟩ := h
  exact ⟨f + 1, by show bnd _ _ = _; rw [a]; show (if _ then _ else _) = _; rw [if_pos e, if_neg hd]⟩
theorem PR.e1 {c : Bool} {T : Nat → Int} {d p q r : Nat} (h : PR c T 5 d p (.inl q)) (e : T q = 63) (hd : d < 8) (h1 : PR c T 6 (d + 1) (q + 1) (.inr r)) : PR c T 6 d p (.inr r) := by
  obtain ⟨f, a, b⟩ := PR.two h h1
  exact ⟨f + 1, by show bnd _ _ = _; rw [a]; show (if _ then _ else _) = _; rw [if_pos e, if_pos hd, b]; rfl⟩
theorem PR.e2 {c : Bool} {T : Nat → Int} {d p q r : Nat} (h : PR c T 5 d p (.inl q)) (e : T q = 63) (hd : d < 8) (h1 : PR c T 6 (d + 1) (q + 1) (.inl r)) (e2 : ¬ T r = 58) : PR c T 6 d p (.inr r) := by
  obtain ⟨f, a, b⟩ := PR.two h h1
  exact ⟨f + 1, by show bnd _ _ = _; rw [a]; show (if _ then _ else _) = _; rw [if_pos e, if_pos hd, b]; show (if _ then _ else _) = _; rw [if_neg e2]⟩
theorem PR.e3 {c : Bool} {T : Nat → Int} {d p q r : Nat} {x : PRes} (h : PR c T 5 d p (.inl q)) (e : T q = 63) (hd : d < 8) (h1 : PR c T 6 (d + 1) (q + 1) (.inl r)) (e2 : T r = 58) (h2 : PR c T 6 (d + 1) (r + 1) x) : PR c T 6 d p x := by
  obtain ⟨f1, a1, b1⟩ := PR.two h h1
  obtain ⟨f, a, b⟩ := PR.two ⟨f1, a1⟩ h2
  have w := pr_le c T f _ b1
  rw [Nat.add_comm] at w
  have a' := pr_le c T f1 _ a
  have b' := pr_le c T f1 _ b
  exact ⟨f + f1 + 1, by show bnd _ _ = _; rw [a']; show (if _ then _ else _) = _; rw [if_pos e, if_pos hd, w]; show (if _ then _ else _) = _; rw [if_pos e2]; exact b'⟩
/-! signs -/
def nrm (z : Int) : Int := if 0 ≤ z ∧ z ≤ 127 then z else -1
def sg (n : Int32) (B : Nat → Int32) (h : Int) : Int := if 0 ≤ h ∧ h < n.toInt then (B h.toNat).toInt else -1
def TX (n : Int32) (B : Nat → Int32) (p : Nat) : Int := nrm (sg n B (p : Int))
theorem TX_or {n : Int32} {B : Nat → Int32} {h : Int} (h0 : 0 ≤ h) : (TX n B h.toNat = sg n B h ∧ 0 ≤ sg n B h ∧ sg n B h ≤ 127) ∨ (TX n B h.toNat = -1 ∧ (sg n B h < 0 ∨ 127 < sg n B h)) := by
  have e : ((h.toNat : Nat) : Int) = h := Int.toNat_of_nonneg h0
  unfold TX
  rw [e]
  unfold nrm
  by_cases q : 0 ≤ sg n B h ∧ sg n B h ≤ 127
  · rw [if_pos q]; exact Or.inl ⟨rfl, q.1, q.2⟩
  · rw [if_neg q]; exact Or.inr ⟨rfl, by omega⟩
theorem TX_tie {n m : Int32} {B A : Nat → Int32} (hn : n.toInt = m.toInt) (h : ∀ i : Nat, (i : Int) < n.toInt → nrm (B i).toInt = nrm (A i).toInt) : TX n B = TX m A := by
  funext p
  unfold TX sg
  rw [← hn]
  by_cases q : 0 ≤ (p : Int) ∧ (p : Int) < n.toInt
  · rw [if_pos q, if_pos q]
    have e : ((p : Int)).toNat = p := rfl
    rw [e]
    exact h p q.2
  · rw [if_neg q, if_neg q]
theorem TX_end {n : Int32} {B : Nat → Int32} {p : Nat} (h : n.toInt ≤ (p : Int)) : TX n B p = -1 := by
  unfold TX sg
  rw [if_neg (by omega)]
  rfl
/-! states: f the fault (below 0: none), h the place -/
def out (r : PRes) (f h : Int) : Prop := match r with
  | .inl q => f < 0 ∧ h = (q : Int)
  | .inr q => f = (q : Int) ∧ h = (q : Int)
def rd (c : Bool) (n : Int32) (B : Nat → Int32) (k : Nat) (d h f' h' : Int) : Prop := ∃ r, PR c (TX n B) k d.toNat h.toNat r ∧ out r f' h'
theorem rd.cast {c : Bool} {n : Int32} {B : Nat → Int32} {k : Nat} {d h f g d' h' f' g' : Int} (r : rd c n B k d h f g) (e1 : d' = d) (e2 : h' = h) (e3 : f' = f) (e4 : g' = g) : rd c n B k d' h' f' g' := by
  subst e1; subst e2; subst e3; subst e4; exact r
theorem rd.ok {c : Bool} {n : Int32} {B : Nat → Int32} {k : Nat} {d h f g : Int} (r : rd c n B k d h f g) (hf : f < 0) : 0 ≤ g ∧ PR c (TX n B) k d.toNat h.toNat (.inl g.toNat) := by
  obtain ⟨x, h1, h2⟩ := r
  cases x with
  | inl q =>
    have h2 : f < 0 ∧ g = (q : Int) := h2
    have e : g.toNat = q := by omega
    rw [e]
    exact ⟨by omega, h1⟩
  | inr q =>
    have h2 : f = (q : Int) ∧ g = (q : Int) := h2
    omega
theorem rd.bad {c : Bool} {n : Int32} {B : Nat → Int32} {k : Nat} {d h f g : Int} (r : rd c n B k d h f g) (hf : 0 ≤ f) : g = f ∧ PR c (TX n B) k d.toNat h.toNat (.inr f.toNat) := by
  obtain ⟨x, h1, h2⟩ := r
  cases x with
  | inl q =>
    have h2 : f < 0 ∧ g = (q : Int) := h2
    omega
  | inr q =>
    have h2 : f = (q : Int) ∧ g = (q : Int) := h2
    have e : f.toNat = q := by omega
    rw [e]
    exact ⟨by omega, h1⟩
theorem rd.mkO {c : Bool} {n : Int32} {B : Nat → Int32} {k : Nat} {d h f g : Int} {q : Nat} (r : PR c (TX n B) k d.toNat h.toNat (.inl q)) (hf : f < 0) (hg : g = (q : Int)) : rd c n B k d h f g := ⟨.inl q, r, hf, hg⟩
theorem rd.mkB {c : Bool} {n : Int32} {B : Nat → Int32} {k : Nat} {d h f g : Int} {q : Nat} (r : PR c (TX n B) k d.toNat h.toNat (.inr q)) (hf : f = (q : Int)) (hg : g = (q : Int)) : rd c n B k d h f g := ⟨.inr q, r, hf, hg⟩
theorem rd.up {c : Bool} {n : Int32} {B : Nat → Int32} {k k' : Nat} {d h f g : Int} (r : rd c n B k d h f g) (hf : 0 ≤ f) (hu : ∀ q, PR c (TX n B) k d.toNat h.toNat (.inr q) → PR c (TX n B) k' d.toNat h.toNat (.inr q)) : rd c n B k' d h f g := by
  have h1 := r.bad hf
  exact rd.mkB (hu _ h1.2) (by omega) (by omega)
theorem rd.name {c : Bool} {n : Int32} {B : Nat → Int32} {d h f g : Int} (h0 : 0 ≤ h) (e : sg n B h = 100 ∨ sg n B h = 104 ∨ sg n B h = 108 ∨ sg n B h = 119 ∨ sg n B h = 107 ∨ sg n B h = 110) (hf : f < 0) (hg : g = h + 1) : rd c n B 0 d h f g := by
  have t := TX_or (n := n) (B := B) h0
  exact rd.mkO (PR.name (show TX n B h.toNat = 100 ∨ TX n B h.toNat = 104 ∨ TX n B h.toNat = 108 ∨ TX n B h.toNat = 119 ∨ TX n B h.toNat = 107 ∨ TX n B h.toNat = 110 by omega)) hf (by omega)
theorem toN1 {d d1 : Int} (h0 : 0 ≤ d) (e : d1 = d + 1) : d1.toNat = d.toNat + 1 := by omega
theorem rd.neg {c : Bool} {n : Int32} {B : Nat → Int32} {d h f g d1 h1 : Int} (h0 : 0 ≤ h) (e : sg n B h = 45) (hd : 0 ≤ d ∧ d < 8) (ed : d1 = d + 1) (eh : h1 = h + 1) (r : rd c n B 0 d1 h1 f g) : rd c n B 0 d h f g := by
  have t := TX_or (n := n) (B := B) h0
  obtain ⟨x, h2, h3⟩ := r
  rw [toN1 hd.1 ed, toN1 h0 eh] at h2
  exact ⟨x, PR.neg (by omega) (by omega) h2, h3⟩
theorem rd.deep {c : Bool} {n : Int32} {B : Nat → Int32} {d h f g : Int} (h0 : 0 ≤ h) (e : sg n B h = 45 ∨ sg n B h = 40) (hd : 8 ≤ d) (hf : f = h) (hg : g = h) : rd c n B 0 d h f g := by
  have t := TX_or (n := n) (B := B) h0
  exact rd.mkB (PR.deepN (by omega) (by omega)) (by omega) (by omega)
theorem rd.par {c : Bool} {n : Int32} {B : Nat → Int32} {d h f g d1 h1 f1 g1 : Int} (h0 : 0 ≤ h) (e : sg n B h = 40) (hd : 0 ≤ d ∧ d < 8) (ed : d1 = d + 1) (eh : h1 = h + 1) (r : rd c n B 6 d1 h1 f1 g1) (hl : (0 ≤ f1 ∧ f = f1 ∧ g = g1) ∨ (f1 < 0 ∧ sg n B g1 = 41 ∧ f < 0 ∧ g = g1 + 1) ∨ (f1 < 0 ∧ ¬ sg n B g1 = 41 ∧ f = g1 ∧ g = g1)) : rd c n B 0 d h f g := by
  have t := TX_or (n := n) (B := B) h0
  have e1 := toN1 hd.1 ed
  have e2 := toN1 h0 eh
  by_cases hf : 0 ≤ f1
  · obtain ⟨h3, h4⟩ := r.bad hf
    rw [e1, e2] at h4
    exact rd.mkB (PR.parB (by omega) (by omega) h4) (by omega) (by omega)
  · obtain ⟨h3, h4⟩ := r.ok (by omega)
    rw [e1, e2] at h4
    have t1 := TX_or (n := n) (B := B) h3
    have h5 := PR.par (by omega) (by omega) h4
    by_cases q : sg n B g1 = 41
    · rw [if_pos (by omega)] at h5
      exact rd.mkO h5 (by omega) (by omega)
    · rw [if_neg (by omega)] at h5
      exact rd.mkB h5 (by omega) (by omega)
/-! numbers -/
theorem nDg_eq {T : Nat → Int} : ∀ {k m p : Nat}, m ≤ k → (∀ i, i < m → isDg (T (p + i))) → (m = k ∨ ¬ isDg (T (p + m))) → nDg T p k = m
  | 0, m, p, h, _, _ => by
    obtain rfl : m = 0 := by omega
    rfl
  | k + 1, 0, p, _, _, h => by
    show (if isDg (T p) then nDg T (p + 1) k + 1 else 0) = 0
    have h1 : ¬ isDg (T p) := h.elim (fun q => by omega) id
    rw [if_neg h1]
  | k + 1, m + 1, p, h, ha, he => by
    show (if isDg (T p) then nDg T (p + 1) k + 1 else 0) = m + 1
    have h1 : isDg (T p) := ha 0 (by omega)
    rw [if_pos h1, nDg_eq (k := k) (m := m) (p := p + 1) (by omega) (fun i hi => by have := ha (i + 1) (by omega); rw [show p + 1 + i = p + (i + 1) by omega]; exact this) (he.elim (fun q => Or.inl (by omega)) (fun q => Or.inr (by rw [show p + 1 + m = p + (m + 1) by omega]; exact q)))]
def dg (c : Bool) (n : Int32) (B : Nat → Int32) (h f g : Int) : Prop := out (prN c (TX n B) h.toNat) f g
theorem dg.cast {c : Bool} {n : Int32} {B : Nat → Int32} {h f g h' f' g' : Int} (r : dg c n B h f g) (e2 : h' = h) (e3 : f' = f) (e4 : g' = g) : dg c n B h' f' g' := by
  subst e2; subst e3; subst e4; exact r
theorem dg_n {n : Int32} {B : Nat → Int32} {h m : Int} (h0 : 0 ≤ h) (hm : 0 ≤ m ∧ m ≤ 5) (ha : ∀ i : Nat, (i : Int) < m → 48 ≤ sg n B (h + i) ∧ sg n B (h + i) ≤ 57) (he : m = 5 ∨ ¬ (48 ≤ sg n B (h + m) ∧ sg n B (h + m) ≤ 57)) : nDg (TX n B) h.toNat 5 = m.toNat := by
  refine nDg_eq (by omega) (fun i hi => ?_) ?_
  · have h1 := ha i (by omega)
    have t := TX_or (n := n) (B := B) (h := h + i) (by omega)
    have e : (h + i).toNat = h.toNat + i := by omega
    rw [e] at t
    show 48 ≤ TX n B (h.toNat + i) ∧ TX n B (h.toNat + i) ≤ 57
    omega
  · by_cases q : m = 5
    · exact Or.inl (by omega)
    · refine Or.inr ?_
      have t := TX_or (n := n) (B := B) (h := h + m) (by omega)
      have e : (h + m).toNat = h.toNat + m.toNat := by omega
      rw [e] at t
      show ¬ (48 ≤ TX n B (h.toNat + m.toNat) ∧ TX n B (h.toNat + m.toNat) ≤ 57)
      omega
theorem dg.of {c : Bool} {n : Int32} {B : Nat → Int32} {h m f g : Int} (h0 : 0 ≤ h) (hm : 0 ≤ m ∧ m ≤ 5) (ha : ∀ i : Nat, (i : Int) < m → 48 ≤ sg n B (h + i) ∧ sg n B (h + i) ≤ 57) (he : m = 5 ∨ ¬ (48 ≤ sg n B (h + m) ∧ sg n B (h + m) ≤ 57)) (ho : (m = 0 ∧ f = h ∧ g = h) ∨ (0 < m ∧ (c = true ∨ ¬ (48 ≤ sg n B (h + m) ∧ sg n B (h + m) ≤ 57)) ∧ f < 0 ∧ g = h + m) ∨ (0 < m ∧ c = false ∧ (48 ≤ sg n B (h + m) ∧ sg n B (h + m) ≤ 57) ∧ f = h + m ∧ g = h + m)) : dg c n B h f g := by
  have hn := dg_n h0 hm ha he
  have t := TX_or (n := n) (B := B) (h := h + m) (by omega)
  have e : (h + m).toNat = h.toNat + m.toNat := by omega
  rw [e] at t
  unfold dg prN
  rw [hn]
  rcases ho with ⟨h1, h2, h3⟩ | ⟨h1, h2, h3, h4⟩ | ⟨h1, h2, h3, h4, h5⟩
  · rw [if_pos (by omega)]
    show f = _ ∧ g = _
    omega
  · rw [if_neg (by omega), if_neg]
    · show f < 0 ∧ g = _
      omega
    · rintro ⟨q1, q2⟩
      have q2 : 48 ≤ TX n B (h.toNat + m.toNat) ∧ TX n B (h.toNat + m.toNat) ≤ 57 := q2
      rcases h2 with h2 | h2
      · rw [h2] at q1; cases q1
      · omega
  · rw [if_neg (by omega), if_pos ⟨h2, show 48 ≤ TX n B (h.toNat + m.toNat) ∧ TX n B (h.toNat + m.toNat) ≤ 57 by omega⟩]
    show f = _ ∧ g = _
    omega
theorem dg.ofT {n : Int32} {B : Nat → Int32} {h m f g : Int} (h0 : 0 ≤ h) (hm : 0 ≤ m ∧ m ≤ 5) (ha : ∀ i : Nat, (i : Int) < m → 48 ≤ sg n B (h + i) ∧ sg n B (h + i) ≤ 57) (he : m = 5 ∨ ¬ (48 ≤ sg n B (h + m) ∧ sg n B (h + m) ≤ 57)) (ho : (m = 0 ∧ f = h ∧ g = h) ∨ (0 < m ∧ f < 0 ∧ g = h + m)) : dg true n B h f g :=
  dg.of h0 hm ha he (ho.elim (fun q => Or.inl q) (fun q => Or.inr (Or.inl ⟨q.1, Or.inl rfl, q.2.1, q.2.2⟩)))
theorem dg.ofF {n : Int32} {B : Nat → Int32} {h m f g q : Int} (h0 : 0 ≤ h) (hm : 0 ≤ m ∧ m ≤ 5) (ha : ∀ i : Nat, (i : Int) < m → 48 ≤ sg n B (h + i) ∧ sg n B (h + i) ≤ 57) (eq : q = h + m) (he : m = 5 ∨ ¬ (48 ≤ sg n B q ∧ sg n B q ≤ 57)) (ho : (m = 0 ∧ f = h ∧ g = h) ∨ (0 < m ∧ ¬ (48 ≤ sg n B q ∧ sg n B q ≤ 57) ∧ f < 0 ∧ g = h + m) ∨ (0 < m ∧ (48 ≤ sg n B q ∧ sg n B q ≤ 57) ∧ f = h + m ∧ g = h + m)) : dg false n B h f g := by
  subst eq
  refine dg.of h0 hm ha he ?_
  rcases ho with z | ⟨z1, z2, z3, z4⟩ | ⟨z1, z2, z3, z4⟩
  · exact Or.inl z
  · exact Or.inr (Or.inl ⟨z1, Or.inr z2, z3, z4⟩)
  · exact Or.inr (Or.inr ⟨z1, rfl, z2, z3, z4⟩)
theorem rd.num {c : Bool} {n : Int32} {B : Nat → Int32} {d h f g : Int} (h0 : 0 ≤ h) (e : ¬ (sg n B h = 100 ∨ sg n B h = 104 ∨ sg n B h = 108 ∨ sg n B h = 119 ∨ sg n B h = 107 ∨ sg n B h = 110)) (e1 : ¬ sg n B h = 45) (e2 : ¬ sg n B h = 40) (r : dg c n B h f g) : rd c n B 0 d h f g := by
  have t := TX_or (n := n) (B := B) h0
  exact ⟨_, PR.num (show ¬ (TX n B h.toNat = 100 ∨ TX n B h.toNat = 104 ∨ TX n B h.toNat = 108 ∨ TX n B h.toNat = 119 ∨ TX n B h.toNat = 107 ∨ TX n B h.toNat = 110) by omega) (by omega) (by omega), r⟩
/-! the loops of a product and of a sum -/
def go (c : Bool) (n : Int32) (B : Nat → Int32) (k k2 : Nat) (d h f g : Int) : Prop := (f < 0 → 0 ≤ g ∧ ∀ r, PR c (TX n B) k2 d.toNat g.toNat r → PR c (TX n B) k d.toNat h.toNat r) ∧ (0 ≤ f → g = f ∧ PR c (TX n B) k d.toNat h.toNat (.inr f.toNat))
theorem go.cast {c : Bool} {n : Int32} {B : Nat → Int32} {k k2 : Nat} {d h f g d' h' f' g' : Int} (r : go c n B k k2 d h f g) (e1 : d' = d) (e2 : h' = h) (e3 : f' = f) (e4 : g' = g) : go c n B k k2 d' h' f' g' := by
  subst e1; subst e2; subst e3; subst e4; exact r
theorem go.p {c : Bool} {n : Int32} {B : Nat → Int32} {d h f g : Int} (r : rd c n B 0 d h f g) : go c n B 1 2 d h f g :=
  ⟨fun hf => ⟨(r.ok hf).1, fun x hx => PR.p (r.ok hf).2 hx⟩, fun hf => ⟨(r.bad hf).1, PR.pB (r.bad hf).2⟩⟩
theorem go.s {c : Bool} {n : Int32} {B : Nat → Int32} {d h f g : Int} (r : rd c n B 1 d h f g) : go c n B 3 4 d h f g :=
  ⟨fun hf => ⟨(r.ok hf).1, fun x hx => PR.s (r.ok hf).2 hx⟩, fun hf => ⟨(r.bad hf).1, PR.sB (r.bad hf).2⟩⟩
theorem go.pl {c : Bool} {n : Int32} {B : Nat → Int32} {d h f g h1 f1 g1 : Int} (w : go c n B 1 2 d h f g) (hf : f < 0) (e : sg n B g = 42 ∨ sg n B g = 47) (eh : h1 = g + 1) (r : rd c n B 0 d h1 f1 g1) : go c n B 1 2 d h f1 g1 := by
  obtain ⟨h0, hw⟩ := w.1 hf
  have t := TX_or (n := n) (B := B) h0
  have e2 := toN1 h0 eh
  refine ⟨fun q => ?_, fun q => ?_⟩
  · obtain ⟨h3, h4⟩ := r.ok q
    rw [e2] at h4
    exact ⟨h3, fun x hx => hw x (PR.pl (by omega) h4 hx)⟩
  · obtain ⟨h3, h4⟩ := r.bad q
    rw [e2] at h4
    exact ⟨h3, hw _ (PR.plB (by omega) h4)⟩
theorem go.sl {c : Bool} {n : Int32} {B : Nat → Int32} {d h f g h1 f1 g1 : Int} (w : go c n B 3 4 d h f g) (hf : f < 0) (e : sg n B g = 43 ∨ sg n B g = 45) (eh : h1 = g + 1) (r : rd c n B 1 d h1 f1 g1) : go c n B 3 4 d h f1 g1 := by
  obtain ⟨h0, hw⟩ := w.1 hf
  have t := TX_or (n := n) (B := B) h0
  have e2 := toN1 h0 eh
  refine ⟨fun q => ?_, fun q => ?_⟩
  · obtain ⟨h3, h4⟩ := r.ok q
    rw [e2] at h4
    exact ⟨h3, fun x hx => hw x (PR.sl (by omega) h4 hx)⟩
  · obtain ⟨h3, h4⟩ := r.bad q
    rw [e2] at h4
    exact ⟨h3, hw _ (PR.slB (by omega) h4)⟩
theorem go.pE {c : Bool} {n : Int32} {B : Nat → Int32} {d h f g : Int} (w : go c n B 1 2 d h f g) (e : f < 0 → ¬ sg n B g = 42 ∧ ¬ sg n B g = 47) : rd c n B 1 d h f g := by
  by_cases hf : f < 0
  · obtain ⟨h0, hw⟩ := w.1 hf
    have t := TX_or (n := n) (B := B) h0
    have e := e hf
    exact rd.mkO (hw _ (PR.plE (by omega))) hf (by omega)
  · obtain ⟨h3, h4⟩ := w.2 (by omega)
    exact rd.mkB h4 (by omega) (by omega)
theorem go.sE {c : Bool} {n : Int32} {B : Nat → Int32} {d h f g : Int} (w : go c n B 3 4 d h f g) (e : f < 0 → ¬ sg n B g = 43 ∧ ¬ sg n B g = 45) : rd c n B 3 d h f g := by
  by_cases hf : f < 0
  · obtain ⟨h0, hw⟩ := w.1 hf
    have t := TX_or (n := n) (B := B) h0
    have e := e hf
    exact rd.mkO (hw _ (PR.slE (by omega))) hf (by omega)
  · obtain ⟨h3, h4⟩ := w.2 (by omega)
    exact rd.mkB h4 (by omega) (by omega)
/-! comparison and choice -/
theorem rd.c0 {c : Bool} {n : Int32} {B : Nat → Int32} {d h f g : Int} (r : rd c n B 3 d h f g) (e : f < 0 → ¬ sg n B g = 60 ∧ ¬ sg n B g = 61 ∧ ¬ sg n B g = 62) : rd c n B 5 d h f g := by
  by_cases hf : f < 0
  · obtain ⟨h0, hw⟩ := r.ok hf
    have t := TX_or (n := n) (B := B) h0
    have e := e hf
    exact rd.mkO (PR.cE hw (by omega)) hf (by omega)
  · exact r.up (by omega) (fun _ => PR.cB)
theorem rd.c1 {c : Bool} {n : Int32} {B : Nat → Int32} {d h f g h1 f1 g1 : Int} (r : rd c n B 3 d h f g) (hf : f < 0) (e : sg n B g = 60 ∨ sg n B g = 61 ∨ sg n B g = 62) (eh : h1 = g + 1) (r1 : rd c n B 3 d h1 f1 g1) : rd c n B 5 d h f1 g1 := by
  obtain ⟨h0, hw⟩ := r.ok hf
  have t := TX_or (n := n) (B := B) h0
  obtain ⟨x, h2, h3⟩ := r1
  rw [toN1 h0 eh] at h2
  exact ⟨x, PR.c hw (by omega) h2, h3⟩
theorem rd.e0 {c : Bool} {n : Int32} {B : Nat → Int32} {d h f g : Int} (r : rd c n B 5 d h f g) (e : f < 0 → ¬ sg n B g = 63) : rd c n B 6 d h f g := by
  by_cases hf : f < 0
  · obtain ⟨h0, hw⟩ := r.ok hf
    have t := TX_or (n := n) (B := B) h0
    have e := e hf
    exact rd.mkO (PR.e0 hw (by omega)) hf (by omega)
  · exact r.up (by omega) (fun _ => PR.eB)
theorem rd.eD {c : Bool} {n : Int32} {B : Nat → Int32} {d h f g f1 g1 : Int} (r : rd c n B 5 d h f g) (hf : f < 0) (e : sg n B g = 63) (hd : 8 ≤ d) (e1 : f1 = g) (e2 : g1 = g) : rd c n B 6 d h f1 g1 := by
  obtain ⟨h0, hw⟩ := r.ok hf
  have t := TX_or (n := n) (B := B) h0
  exact rd.mkB (PR.eD hw (by omega) (by omega)) (by omega) (by omega)
theorem rd.eX {c : Bool} {n : Int32} {B : Nat → Int32} {d h f g d1 h1 f1 g1 d2 f2 g2 f3 g3 : Int} (r : rd c n B 5 d h f g) (hf : f < 0) (e : sg n B g = 63) (hd : 0 ≤ d ∧ d < 8) (ed : d1 = d + 1) (eh : h1 = g + 1) (r1 : rd c n B 6 d1 h1 f1 g1) (ht : (0 ≤ f1 ∧ f3 = f1 ∧ g3 = g1) ∨ (f1 < 0 ∧ ¬ sg n B g1 = 58 ∧ f3 = g1 ∧ g3 = g1) ∨ (f1 < 0 ∧ sg n B g1 = 58 ∧ f2 < 0 ∧ g2 = g1 + 1)) (ed2 : d2 = d + 1) (r2 : f2 < 0 → (f1 < 0 ∧ sg n B g1 = 58) → rd c n B 6 d2 g2 f3 g3) : rd c n B 6 d h f3 g3 := by
  obtain ⟨h0, hw⟩ := r.ok hf
  have t := TX_or (n := n) (B := B) h0
  have e1 := toN1 hd.1 ed
  have e2 := toN1 hd.1 ed2
  have e3 := toN1 h0 eh
  by_cases q : 0 ≤ f1
  · obtain ⟨h3, h4⟩ := r1.bad q
    rw [e1, e3] at h4
    exact rd.mkB (PR.e1 hw (by omega) (by omega) h4) (by omega) (by omega)
  · obtain ⟨h3, h4⟩ := r1.ok (by omega)
    rw [e1, e3] at h4
    have t1 := TX_or (n := n) (B := B) h3
    by_cases z : sg n B g1 = 58
    · obtain ⟨x, h5, h6⟩ := r2 (by omega) ⟨by omega, z⟩
      rw [e2, toN1 h3 (show g2 = g1 + 1 by omega)] at h5
      exact ⟨x, PR.e3 hw (by omega) (by omega) h4 (by omega) h5, h6⟩
    · exact rd.mkB (PR.e2 hw (by omega) (by omega) h4 (by omega)) (by omega) (by omega)
/-! what a law answers: L laws there were, L' there are -/
def lans (c : Bool) (n : Int32) (B : Nat → Int32) (L r L' : Int) : Prop := ∃ x, PR c (TX n B) 6 0 0 x ∧ ((∃ q : Nat, x = .inl q ∧ n.toInt ≤ (q : Int) ∧ r = L ∧ L' = L + 1) ∨ (∃ q : Nat, ((x = .inl q ∧ (q : Int) < n.toInt) ∨ x = .inr q) ∧ r = -100 - (q : Int) ∧ L' = L))
theorem lans.mk {c : Bool} {n : Int32} {B : Nat → Int32} {d h f g f2 L r L' : Int} (w : rd c n B 6 d h f g) (hd : d = 0) (hh : h = 0) (hf : (0 ≤ f ∧ f2 = f) ∨ (f < 0 ∧ g < n.toInt ∧ f2 = g) ∨ (f < 0 ∧ n.toInt ≤ g ∧ f2 < 0)) (ha : (f2 < 0 ∧ r = L ∧ L' = L + 1) ∨ (0 ≤ f2 ∧ r = -100 - f2 ∧ L' = L)) : lans c n B L r L' := by
  subst hd; subst hh
  by_cases q : 0 ≤ f
  · obtain ⟨h3, h4⟩ := w.bad q
    exact ⟨_, h4, Or.inr ⟨f.toNat, Or.inr rfl, by omega, by omega⟩⟩
  · obtain ⟨h3, h4⟩ := w.ok (by omega)
    refine ⟨_, h4, ?_⟩
    by_cases z : g < n.toInt
    · exact Or.inr ⟨g.toNat, Or.inl ⟨rfl, by omega⟩, by omega, by omega⟩
    · exact Or.inl ⟨g.toNat, rfl, by omega, by omega, by omega⟩
theorem lans.one {n : Int32} {B A : Nat → Int32} {L r r' L1 L2 : Int} (ht : TX n B = TX n A) (h : lans true n B L r L1) (h' : lans false n A L r' L2) : r = r' ∧ L1 = L2 := by
  obtain ⟨x, h1, h2⟩ := h
  obtain ⟨y, h3, h4⟩ := h'
  rw [ht] at h1
  have e := PR.rel h1 h3
  rcases e with rfl | ⟨q, rfl, rfl, hq⟩
  · rcases h2 with ⟨q, e1, e2, e3, e4⟩ | ⟨q, e1, e3, e4⟩
    · rcases h4 with ⟨q', z1, z2, z3, z4⟩ | ⟨q', z1, z3, z4⟩
      · omega
      · rcases z1 with ⟨z1, z2⟩ | z1
        · rw [e1] at z1; cases z1; omega
        · rw [e1] at z1; cases z1
    · rcases h4 with ⟨q', z1, z2, z3, z4⟩ | ⟨q', z1, z3, z4⟩
      · rcases e1 with ⟨e1, e2⟩ | e1
        · rw [e1] at z1; cases z1; omega
        · rw [e1] at z1; cases z1
      · rcases e1 with ⟨e1, e2⟩ | e1
        · rcases z1 with ⟨z1, z2⟩ | z1
          · rw [e1] at z1; cases z1; omega
          · rw [e1] at z1; cases z1
        · rcases z1 with ⟨z1, z2⟩ | z1
          · rw [e1] at z1; cases z1
          · rw [e1] at z1; cases z1; omega
  · have hq : 48 ≤ TX n A q ∧ TX n A q ≤ 57 := hq
    have hn : (q : Int) < n.toInt := by
      by_cases z : (q : Int) < n.toInt
      · exact z
      · have := TX_end (n := n) (B := A) (p := q) (by omega)
        omega
    rcases h2 with ⟨q1, e1, e2, e3, e4⟩ | ⟨q1, e1, e3, e4⟩
    · cases e1; omega
    · rcases h4 with ⟨q2, z1, z2, z3, z4⟩ | ⟨q2, z1, z3, z4⟩
      · cases z1
      · rcases z1 with ⟨z1, z2⟩ | z1
        · cases z1
        · cases z1
          rcases e1 with ⟨e1, e2⟩ | e1
          · cases e1; omega
          · cases e1
