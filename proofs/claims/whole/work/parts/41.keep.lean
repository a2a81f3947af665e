/-! WHAT THE COMMANDS KEEP of the functions -/
theorem wf2_T {T T' : List Dn} (vs : Ob → Bool) (h : ∀ y, 0 ≤ arT T y → arT T' y = arT T y) : ∀ x : Ob, ((wf2 T vs x).1 = true → (wf2 T' vs x).1 = true) ∧ ((wf2 T vs x).2 = true → (wf2 T' vs x).2 = true) := by
  intro x
  induction x with
  | add a b ha hb =>
    simp only [wf2, Bool.or_eq_true, Bool.and_eq_true, decide_eq_true_eq]
    refine ⟨fun q => q.imp (fun q => q) (fun q => ⟨⟨?_, ?_⟩, hb.2 q.2⟩), fun q => ⟨ha.1 q.1, hb.2 q.2⟩⟩
    · rw [h a q.1.1]; exact q.1.1
    · rw [h a q.1.1]; exact q.1.2
  | _ => exact ⟨fun q => q, fun q => q⟩
theorem wf2_cl {T T' : List Dn} (vs : Ob → Bool) {N : Ob} (h : ∀ y, y ≠ N → arT T' y = arT T y) : ∀ x : Ob, ((cl2 N x).1 = false → (wf2 T vs x).1 = true → (wf2 T' vs x).1 = true) ∧ ((cl2 N x).2 = false → (wf2 T vs x).2 = true → (wf2 T' vs x).2 = true) := by
  intro x
  induction x with
  | add a b ha hb =>
    simp only [wf2, cl2, Bool.or_eq_true, Bool.and_eq_true, decide_eq_true_eq, Bool.and_eq_false_iff, Bool.or_eq_false_iff, Bool.not_eq_false', decide_eq_false_iff_not]
    refine ⟨fun c q => ?_, fun c q => ⟨ha.1 c.1 q.1, hb.2 c.2 q.2⟩⟩
    rcases c with c | c
    · exact Or.inl c
    · rcases q with q | q
      · exact Or.inl q
      · exact Or.inr ⟨⟨by rw [h a c.1]; exact q.1.1, by rw [h a c.1]; exact q.1.2⟩, hb.2 c.2 q.2⟩
  | _ => exact ⟨fun _ q => q, fun _ q => q⟩
theorem dLk_app {T : List Dn} {d : Dn} {y : Ob} : dLk (T ++ [d]) y = match dLk T y with | some q => some q | none => if d.1 = y then some d else none := by
  induction T with
  | nil => rfl
  | cons q T ih =>
    simp only [List.cons_append, dLk]
    by_cases e : q.1 = y
    · rw [if_pos e, if_pos e]
    · rw [if_neg e, if_neg e, ih]
theorem arT_of {T T' : List Dn} {y : Ob} (h : (dLk T' y).map (fun d => obLen d.2.1) = (dLk T y).map (fun d => obLen d.2.1)) : arT T' y = arT T y := by
  unfold arT
  split
  · rfl
  · cases h1 : dLk T' y <;> cases h2 : dLk T y <;> rw [h1, h2] at h <;> first | rfl | (cases h; done) | (have := Option.some.inj h; exact this)
theorem arT_app {T : List Dn} {d : Dn} {y : Ob} (h : 0 ≤ arT T y) : arT (T ++ [d]) y = arT T y := by
  unfold arT at h ⊢
  by_cases hk : kIx y ≤ 16
  · rw [if_pos hk, if_pos hk]
  · rw [if_neg hk] at h ⊢
    rw [if_neg hk, dLk_app]
    cases h1 : dLk T y with
    | some q => rfl
    | none => rw [h1] at h; exact absurd h (by decide)
theorem arT_new {T : List Dn} {N P X y : Ob} (h : dLk T N = none) : arT (T ++ [(N, P, X)]) y = arT ((N, P, oNil) :: T) y := by
  refine arT_of ?_
  rw [dLk_app]
  simp only [dLk]
  by_cases e : N = y
  · subst e; rw [h, if_pos rfl, if_pos rfl]; rfl
  · rw [if_neg e]; cases dLk T y <;> simp [e]
theorem isDef_ok {T : List Dn} {N P X : Ob} (h : isDef T N P X = true) : 16 < kIx N ∧ (0 ≤ obLen P ∧ obLen P ≤ 6) ∧ (wf2 ((N, P, oNil) :: T) (fun q => obEl q P) X).1 = true ∧ (sz2 X).1 ≤ 120 := by
  unfold isDef isFN arePs isTm at h
  simp only [Bool.and_eq_true, decide_eq_true_eq] at h
  exact ⟨h.1.1.2, h.1.2.1, h.2.1, h.2.2⟩
theorem defC_ok {T : List Dn} {N P X : Ob} (hT : TOk T) (hs : TSz T) : TOk (defC T N P X).2 ∧ TSz (defC T N P X).2 := by
  unfold defC
  by_cases h : isDef T N P X = true
  · rw [if_pos h]
    obtain ⟨h1, h2, h3, h4⟩ := isDef_ok h
    cases hd : dLk T N with
    | some d => exact ⟨hT, hs⟩
    | none =>
      simp only
      split
      · exact ⟨hT, hs⟩
      · refine ⟨fun d hm => ?_, fun d hm => ?_⟩
        · rcases List.mem_append.mp hm with hm | hm
          · obtain ⟨a, b, c, e⟩ := hT d hm
            exact ⟨a, b, c, (wf2_T _ (fun y hy => arT_app hy) d.2.2).1 e⟩
          · rw [List.mem_singleton.mp hm]
            exact ⟨h1, h2.1, h2.2, (wf2_T _ (fun y _ => arT_new hd) X).1 h3⟩
        · rcases List.mem_append.mp hm with hm | hm
          · exact hs d hm
          · rw [List.mem_singleton.mp hm]; exact h4
  · rw [if_neg h]; exact ⟨hT, hs⟩
theorem dSet_mem {T : List Dn} {N P X : Ob} {q : Dn} (h : q ∈ dSet T N P X) : q ∈ T ∨ q = (N, P, X) := by
  induction T with
  | nil => cases h
  | cons d T ih =>
    simp only [dSet] at h
    split at h
    · rename_i e
      rcases List.mem_cons.mp h with h | h
      · right; rw [h, e]
      · exact Or.inl (List.mem_cons_of_mem _ h)
    · rcases List.mem_cons.mp h with h | h
      · left; rw [h]; exact List.mem_cons_self
      · rcases ih h with h | h
        · exact Or.inl (List.mem_cons_of_mem _ h)
        · exact Or.inr h
theorem dSet_ar {T : List Dn} {N P X : Ob} {d : Dn} (hd : dLk T N = some d) (hl : obLen d.2.1 = obLen P) (y : Ob) : (dLk (dSet T N P X) y).map (fun d => obLen d.2.1) = (dLk T y).map (fun d => obLen d.2.1) := by
  induction T with
  | nil => cases hd
  | cons q T ih =>
    simp only [dLk] at hd
    simp only [dSet]
    by_cases e : q.1 = N
    · rw [if_pos e] at hd
      cases hd
      rw [if_pos e]
      simp only [dLk]
      split
      · simp only [Option.map_some]; rw [hl]
      · rfl
    · rw [if_neg e] at hd
      rw [if_neg e]
      simp only [dLk]
      split
      · rfl
      · exact ih hd
theorem redoC_ok {T : List Dn} {N P X : Ob} (hT : TOk T) (hs : TSz T) : TOk (redoC T N P X).2 ∧ TSz (redoC T N P X).2 := by
  unfold redoC
  by_cases h : isDef T N P X = true
  · rw [if_pos h]
    obtain ⟨h1, h2, h3, h4⟩ := isDef_ok h
    cases hd : dLk T N with
    | none => exact ⟨hT, hs⟩
    | some d =>
      simp only
      split
      · rename_i hl
        have ha : ∀ y, arT (dSet T N P X) y = arT T y := fun y => arT_of (dSet_ar hd hl y)
        have hb : ∀ y, arT T y = arT ((N, P, oNil) :: T) y := by
          intro y
          refine arT_of ?_
          simp only [dLk]
          by_cases e : N = y
          · rw [if_pos e, ← e, hd]; simp only [Option.map_some]; rw [hl]
          · rw [if_neg e]
        refine ⟨fun q hm => ?_, fun q hm => ?_⟩
        · rcases dSet_mem hm with hm | hm
          · obtain ⟨a, b, c, e⟩ := hT q hm
            exact ⟨a, b, c, (wf2_T _ (fun y _ => ha y) q.2.2).1 e⟩
          · rw [hm]
            exact ⟨h1, h2.1, h2.2, (wf2_T _ (fun y _ => (ha y).trans (hb y)) X).1 h3⟩
        · rcases dSet_mem hm with hm | hm
          · exact hs q hm
          · rw [hm]; exact h4
      · exact ⟨hT, hs⟩
  · rw [if_neg h]; exact ⟨hT, hs⟩
theorem undoC_ok {T : List Dn} (hT : TOk T) (hs : TSz T) : TOk (undoC T).2 ∧ TSz (undoC T).2 := by
  rcases List.eq_nil_or_concat T with rfl | ⟨T0, d, rfl⟩
  · exact ⟨hT, hs⟩
  · rw [List.concat_eq_append] at *
    unfold undoC
    rw [List.getLast?_append]
    simp only [List.getLast?_singleton, Option.some_or, List.dropLast_concat]
    split
    · exact ⟨hT, hs⟩
    · rename_i hc
      refine ⟨fun q hm => ?_, fun q hm => hs q (List.mem_append_left _ hm)⟩
      obtain ⟨a, b, c, e⟩ := hT q (List.mem_append_left _ hm)
      refine ⟨a, b, c, (wf2_cl (N := d.1) _ (fun y hy => arT_of ?_) q.2.2).1 ?_ e⟩
      · rw [dLk_app]; cases dLk T0 y <;> simp [Ne.symm hy]
      · have : (T0.any fun q => (cl2 d.1 q.2.2).1) = false := by simpa using hc
        exact Bool.eq_false_iff.mpr (List.any_eq_false.mp this q hm)
theorem cmdF_ok {T : List Dn} {fu nk : Nat} {X : Ob} (hT : TOk T) (hs : TSz T) : TOk (cmdF T fu nk X).2 ∧ TSz (cmdF T fu nk X).2 := by
  unfold cmdF
  split
  · split <;> exact ⟨hT, hs⟩
  · split
    · split <;> exact ⟨hT, hs⟩
    · exact ⟨hT, hs⟩
  · split <;> exact ⟨hT, hs⟩
  · split
    · exact defC_ok hT hs
    · exact ⟨hT, hs⟩
  · split
    · exact redoC_ok hT hs
    · exact ⟨hT, hs⟩
  · split
    · exact undoC_ok hT hs
    · exact ⟨hT, hs⟩
  · split <;> exact ⟨hT, hs⟩
  · exact ⟨hT, hs⟩
theorem defC_len {T : List Dn} {N P X : Ob} (h : T.length ≤ 40) : (defC T N P X).2.length ≤ 40 := by
  unfold defC
  split
  · split
    · exact h
    · split
      · exact h
      · simp; omega
  · exact h
