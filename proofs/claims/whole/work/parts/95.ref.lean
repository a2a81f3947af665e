/-! WHAT IS READ IS SMALL, in nodes -/
theorem nd2_le (x : Ob) : (nd2 x).1 ≤ 1 + (nd2 x).2 := by cases x <;> simp only [nd2] <;> omega
def ndm (x : Ob) : Nat := max (nd2 x).1 (nd2 x).2
def itW : List Ob → Nat
  | [] => 0
  | x :: q => ndm x + itW q
def fwF (f : Rf) : Nat := 1 + itW f.2.1 + (nd2 f.2.2).2
def fwn : List Rf → Nat
  | [] => 0
  | f :: F => fwF f + fwn F
def dnW : Option Ob → Nat
  | none => 0
  | some v => ndm v
theorem rLs_nd : ∀ (q : List Ob) (v : Ob), (nd2 (rLs q v)).2 ≤ itW q + (nd2 v).2
  | [], v => by simp [rLs, itW]
  | x :: q, v => by
    have := rLs_nd q (.add x v)
    simp only [rLs, itW]
    simp only [nd2] at this
    have h2 : (nd2 x).1 ≤ ndm x := Nat.le_max_left _ _
    omega
theorem rDel_nd : ∀ (F : List Rf) (v : Ob), dnW (rDel v F).1 + fwn (rDel v F).2 ≤ ndm v + fwn F
  | [], v => by simp [rDel, dnW, fwn]
  | f :: F, v => by
    rw [rDel]
    by_cases e3 : f.1 = 3
    · rw [if_pos e3]
      have := rDel_nd F (.add oQuote (.add v oNil))
      have h2 : ndm (.add oQuote (.add v oNil)) ≤ 1 + ndm v := by
        have h3 : (nd2 v).1 ≤ ndm v := Nat.le_max_left _ _
        have h4 : ndm (.add oQuote (.add v oNil)) = max (1 + ((nd2 v).1 + 0)) (1 + ((nd2 v).1 + 0)) := rfl
        rw [h4]
        omega
      simp only [fwn, fwF]
      omega
    · rw [if_neg e3]
      by_cases e1 : f.1 = 1
      · rw [if_pos e1]
        have h3 : (nd2 v).2 ≤ ndm v := Nat.le_max_right _ _
        simp only [dnW, fwn, fwF]
        omega
      · rw [if_neg e1]
        simp only [dnW, fwn, fwF, itW, show (nd2 oNil).2 = 0 from rfl]
        omega
theorem rAt_nd {f : Int → Int} {i j : Int} : ndm ((rAt f i j).getD oNil) = 1 := by
  unfold rAt
  split
  · split <;> rfl
  · split <;> rfl
theorem rTk_nd (f : Int → Int) (i j : Int) (dn : Option Ob) (F : List Rf) : dnW (rTk f i j dn F).1 + fwn (rTk f i j dn F).2 ≤ dnW dn + fwn F + 1 := by
  unfold rTk
  split
  · simp only [fwn, fwF, itW, show (nd2 oNil).2 = 0 from rfl]; omega
  · split
    · simp only [fwn, fwF, itW, show (nd2 oNil).2 = 0 from rfl]; omega
    · split
      · cases F with
        | nil => simp only []; omega
        | cons q fs => simp only [fwn, fwF, show (nd2 oNil).2 = 0 from rfl]; omega
      · split
        · cases F with
          | nil => simp only []; omega
          | cons q fs =>
            have h1 := rDel_nd fs (rLs q.2.1 q.2.2)
            have h2 := rLs_nd q.2.1 q.2.2
            have h3 := nd2_le (rLs q.2.1 q.2.2)
            have h4 : ndm (rLs q.2.1 q.2.2) ≤ fwF q := by unfold ndm fwF; omega
            simp only [fwn]
            show dnW (rDel (rLs q.2.1 q.2.2) fs).1 + fwn (rDel (rLs q.2.1 q.2.2) fs).2 ≤ _
            omega
        · have h1 := rDel_nd F ((rAt f i j).getD oNil)
          rw [rAt_nd] at h1
          omega
theorem rBl_ge (f : Int → Int) : ∀ (m : Nat) (c : Bool) (i : Int), i ≤ rBl f m c i ∧ rBl f m c i ≤ i + m
  | 0, _, i => by simp [rBl]
  | m + 1, c, i => by
    rw [rBl]
    split
    · have := rBl_ge f m false (i + 1); omega
    · split
      · have := rBl_ge f m true (i + 1); omega
      · split
        · omega
        · have := rBl_ge f m c (i + 1); omega
theorem rWe_ge (f : Int → Int) : ∀ (m : Nat) (i : Int), i ≤ rWe f m i ∧ rWe f m i ≤ i + m
  | 0, i => by simp [rWe]
  | m + 1, i => by
    rw [rWe]
    split
    · have := rWe_ge f m (i + 1); omega
    · omega
theorem rEnd_ge {f : Int → Int} {len i : Int} (h : i < len) : i + 1 ≤ rEnd f len i ∧ rEnd f len i ≤ len := by
  unfold rEnd
  split
  · rename_i ha
    rw [show (len - i).toNat = (len - i - 1).toNat + 1 by omega, rWe, if_pos ha]
    have := rWe_ge f (len - i - 1).toNat (i + 1)
    omega
  · omega
/-- what is read has no more nodes than there were words, and letters -/
theorem rRun_nd (f : Int → Int) (len : Nat) : ∀ (m : Nat) (i : Int) (wd : Nat) (dn : Option Ob) (F : List Rf), 0 ≤ i → i ≤ len → wd ≤ nzC f i.toNat → wd ≤ 1000 → dnW dn + fwn F ≤ wd → (rRun f len m i wd dn F).1 = 0 → (nd2 (rRun f len m i wd dn F).2.2).1 ≤ min (nzC f len) 1000 := by
  intro m
  induction m with
  | zero => intro i wd dn F _ _ _ _ _ h; rw [rRun.eq_def] at h; cases h
  | succ m ih =>
    intro i wd dn F hi0 hil hwn hw hd h
    rw [rRun.eq_def] at h ⊢
    simp only at h ⊢
    by_cases c1 : (len : Int) ≤ i
    · rw [if_pos c1] at h ⊢
      cases dn with
      | none => cases h
      | some v =>
        show (nd2 v).1 ≤ _
        have e : (nd2 v).1 ≤ ndm v := Nat.le_max_left _ _
        simp only [dnW] at hd
        rw [show i.toNat = len by omega] at hwn
        omega
    · rw [if_neg c1] at h ⊢
      by_cases c2 : rFa f i (rEnd f len i) wd dn F = 0
      · rw [if_pos c2] at h ⊢
        obtain ⟨a1, -, -, -, a5⟩ := rFa_0 c2
        have h1 := rEnd_ge (f := f) (len := len) (i := i) (by omega)
        have h2 := rBl_ge f ((len : Int) - rEnd f len i).toNat false (rEnd f len i)
        have h3 := rTk_nd f i (rEnd f len i) dn F
        have hne : f ((i.toNat : Nat) : Int) ≠ 0 := by
          rw [show ((i.toNat : Nat) : Int) = i by omega]
          intro e
          rw [e] at a1
          rcases a1 with q | q | q | q | q
          · omega
          · omega
          · omega
          · omega
          · exact absurd q (by decide +kernel)
        have h4 := nzC_one hne
        have h5 := nzC_mono (f := f) (i := i.toNat + 1) (j := (rBl f ((len : Int) - rEnd f len i).toNat false (rEnd f len i)).toNat) (by omega)
        exact ih _ _ _ _ (by omega) (by omega) (by omega) (by omega) (by omega) h
      · rw [if_neg c2] at h
        exact absurd h c2
theorem rTx_nd {f : Int → Int} {len : Nat} (h : (rTx f len).1 = 0) : (nd2 (rTx f len).2.2).1 ≤ min (nzC f len) 1000 := by
  have h2 := rBl_ge f len false 0
  exact rRun_nd f len 1002 _ 0 none [] (by omega) (by omega) (Nat.zero_le _) (by omega) (by simp [dnW, fwn]) h
/-! the parts of a command are small -/
theorem nd2_a {X : Ob} {k : Nat} (h : (nd2 X).1 ≤ k) (hp : obP (obCdr X) = true) : (nd2 (obCar (obCdr X))).1 ≤ k := by
  cases X with
  | add a b =>
    simp only [nd2] at h
    have := nd2_p hp
    simp only [obCdr] at this hp ⊢
    omega
  | _ => cases hp
theorem nd2_l {X : Ob} {k : Nat} (h : (nd2 X).2 ≤ k) : (nd2 (obCar X)).1 ≤ k ∨ obP X = false := by
  cases X with
  | add a b => simp only [nd2] at h; exact Or.inl (by simp only [obCar]; omega)
  | _ => exact Or.inr rfl
theorem nd2_at {X : Ob} {k : Nat} (h : (nd2 X).1 ≤ k) : ∀ j : Nat, (∀ i, i ≤ j → obP (cdN i (obCdr X)) = true) → (nd2 (obCar (cdN j (obCdr X)))).1 ≤ k ∧ (nd2 (cdN j (obCdr X))).2 ≤ k := by
  intro j
  induction j with
  | zero =>
    intro hp
    have h0 := hp 0 (Nat.le_refl _)
    simp only [cdN] at h0 ⊢
    cases X with
    | add a b =>
      simp only [nd2] at h
      have := nd2_p h0
      simp only [obCdr] at this h0 ⊢
      omega
    | _ => cases h0
  | succ j ih =>
    intro hp
    have h1 := ih (fun i hi => hp i (by omega))
    have e : cdN (j + 1) (obCdr X) = obCdr (cdN j (obCdr X)) := cdN_p
    have h2 := nd2_p (hp j (by omega))
    have h3 := nd2_p (hp (j + 1) (Nat.le_refl _))
    rw [e] at h3 ⊢
    omega
theorem ls_nd : ∀ x : Ob, (lsO x).length ≤ (nd2 x).2 := by
  intro x
  induction x with
  | add a b ha hb =>
    have := nd2_1 a
    simp only [lsO, List.length_cons, nd2]
    omega
  | _ => exact Nat.zero_le _
/-! one element of a map, as the reference has it -/
theorem cn_step {T : List Dn} {fu m k nk : Nat} {v : Ob} {e : Bds} {S : List Fr} : mRun T fu (m + 1) 0 (cnO v) e S k nk = mRun T fu m 1 v [] S k nk := by
  rw [mRun_0]
  unfold cnO
  by_cases h : isPc v = true
  · rw [if_pos h, if_neg (by rw [(isPc_v h).1]; decide), if_pos (isPc_v h).2]
  · rw [if_neg h, if_neg (by show ¬ (false = true); decide), if_neg (by show ¬ (true = false); decide), if_pos (c := obCar (.add oQuote (.add v oNil)) = oQuote) rfl]
    rfl
theorem fn_ne {N : Ob} (h : isFN N = true) : N ≠ oQuote ∧ N ≠ yK 3 ∧ 16 < kIx N ∧ obS N = true := by
  unfold isFN at h
  simp only [Bool.and_eq_true, decide_eq_true_eq] at h
  refine ⟨fun e => ?_, fun e => ?_, h.2, h.1⟩
  · have := h.2; rw [e, oQuote_yK, kIx_k 2 (by decide)] at this; omega
  · have := h.2; rw [e, kIx_k 3 (by decide)] at this; omega
theorem mp_call {T : List Dn} {fu m k nk : Nat} {N v : Ob} (hN : isFN N = true) : mRun T fu (m + 4) 0 (.add N (.add (cnO v) oNil)) [] [] k nk = if fu ≤ k then (1, .add N (.add (cnO v) oNil), k, nk) else mRun T fu m 2 oNil [] [(N, oNil, [v], [], false)] (k + 1) (max nk 1) := by
  obtain ⟨h1, h2, -, -⟩ := fn_ne hN
  rw [mRun_0, if_neg (by show ¬ (false = true); decide), if_neg (by show ¬ (true = false); decide), if_neg (c := obCar (.add N (.add (cnO v) oNil)) = oQuote) h1, if_neg (by show ¬ 300 ≤ 0; decide)]
  by_cases c : fu ≤ k
  · rw [if_pos c, if_pos c]
  · rw [if_neg c, if_neg c, mRun_2, if_pos (by rfl)]
    show mRun T fu (m + 1 + 1) 0 (cnO v) [] _ _ _ = _
    rw [cn_step, mRun_1, if_neg (by decide), if_neg (c := obCar (.add N (.add (cnO v) oNil)) = yK 3) h2]
    rfl
theorem cn_wf {T : List Dn} {vs : Ob → Bool} (v : Ob) : (wf2 T vs (cnO v)).1 = true := by
  unfold cnO
  by_cases h : isPc v = true
  · rw [if_pos h, at_wf (isPc_v h).2, (isPc_v h).1]; rfl
  · rw [if_neg h]
    simp only [wf2]
    rw [show obQ (.add oQuote (.add v oNil)) = true from by unfold obQ; simp [obCar, obCdr, obP]]
    rfl
theorem mp_wf {T : List Dn} {vs : Ob → Bool} {N v : Ob} {d : Dn} (hN : isFN N = true) (hd : dLk T N = some d) (h1 : obLen d.2.1 = 1) : (wf2 T vs (.add N (.add (cnO v) oNil))).1 = true := by
  have ha : arT T N = 1 := by unfold arT; rw [if_neg (by have := (fn_ne hN).2.2.1; omega), hd]; exact h1
  simp only [wf2, Bool.or_eq_true, Bool.and_eq_true, decide_eq_true_eq]
  exact Or.inr ⟨⟨by rw [ha]; decide, by rw [ha]; rfl⟩, cn_wf v, rfl⟩
theorem mp_ref {T : List Dn} {fu k nk : Nat} {N v : Ob} {d : Dn} (hT : TOk T) (hN : isFN N = true) (hd : dLk T N = some d) (h1 : obLen d.2.1 = 1) : rnE (mp1 T fu N v k nk) (mRun (plT T) fu 30004 0 (.add N (.add (cnO v) oNil)) [] [] k nk) := by
  rw [mp_call hN]
  unfold mp1
  by_cases c : fu ≤ k
  · rw [if_pos c, if_pos c]; exact ⟨rfl, rfl, fun h => by cases h⟩
  · rw [if_neg c, if_neg c]
    have ha : arT T N = 1 := by unfold arT; rw [if_neg (by have := (fn_ne hN).2.2.1; omega), hd]; exact h1
    have hok : FrOk T 0 (N, oNil, [v], [], false) := ⟨by show 0 ≤ obLen oNil; decide +kernel, rfl, fun _ => ⟨by show ((1 : Nat) : Int) + 0 + obLen oNil = arT T N; rw [ha]; rfl, fun e => absurd e (fn_ne hN).2.1⟩⟩
    exact pl_run hT 30000 2 oNil [] [(N, oNil, [v], [], false)] (k + 1) (max nk 1) (Or.inr (Or.inr ⟨rfl, _, _, rfl, rfl, hok, trivial⟩))
theorem ev_ref {T : List Dn} {fu nk : Nat} {X : Ob} {e : Bds} (hT : TOk T) (hw : (wf2 T (eHas e) X).1 = true) : rnE (mRun T fu 30000 0 X e [] 0 nk) (mRun (plT T) fu 30000 0 (pl2 X).1 e [] 0 nk) := pl_run hT 30000 0 X e [] 0 nk (Or.inl ⟨rfl, hw, trivial⟩)
/-! the functions behind a command -/
theorem plT_app (T : List Dn) (N P X : Ob) : plT (T ++ [(N, P, X)]) = plT T ++ [(N, P, (pl2 X).1)] := by simp [plT, plD]
theorem plT_set (N P X : Ob) : ∀ T : List Dn, plT (dSet T N P X) = dSet (plT T) N P (pl2 X).1
  | [] => rfl
  | d :: T => by
    show plT (dSet (d :: T) N P X) = dSet (plD d :: plT T) N P (pl2 X).1
    simp only [dSet]
    rw [show (plD d).1 = d.1 from rfl]
    split
    · rfl
    · show plD d :: plT (dSet T N P X) = _
      rw [plT_set N P X T]
theorem plT_drop (T : List Dn) : plT T.dropLast = (plT T).dropLast := by simp [plT]
theorem dSet_len (N P X : Ob) : ∀ T : List Dn, (dSet T N P X).length = T.length
  | [] => rfl
  | d :: T => by
    simp only [dSet]
    split
    · rfl
    · simp [dSet_len N P X T]
theorem dSet_me2 {N P X : Ob} {d : Dn} : ∀ {T : List Dn}, d ∈ dSet T N P X → d ∈ T ∨ (d = (N, P, X))
  | [], h => absurd h List.not_mem_nil
  | q :: T, h => by
    simp only [dSet] at h
    split at h
    · rename_i e
      rcases List.mem_cons.mp h with h | h
      · right; rw [h, e]
      · exact Or.inl (List.mem_cons_of_mem _ h)
    · rcases List.mem_cons.mp h with h | h
      · left; rw [h]; exact List.mem_cons_self
      · exact (dSet_me2 h).imp (List.mem_cons_of_mem _) (fun q => q)
theorem isDef_fn {T : List Dn} {N P X : Ob} (h : isDef T N P X = true) : isFN N = true ∧ arePs P = true ∧ isTm ((N, P, oNil) :: T) (fun q => obEl q P) X = true := by
  unfold isDef at h
  simp only [Bool.and_eq_true] at h
  exact ⟨h.1.1, h.1.2, h.2⟩
theorem TNs.cmd {T : List Dn} {fu nk : Nat} {X : Ob} (h : TNs T) : TNs (cmdF T fu nk X).2 := by
  have hdef : ∀ N P Y, TNs (defC T N P Y).2 := by
    intro N P Y
    unfold defC
    split
    · rename_i hd
      have hf := fn_ne (isDef_fn hd).1
      split
      · exact h
      · split
        · exact h
        · intro d hd
          rcases List.mem_append.mp hd with q | q
          · exact h d q
          · rw [List.mem_singleton.mp q]; exact ⟨hf.2.2.1, hf.2.2.2⟩
    · exact h
  have hredo : ∀ N P Y, TNs (redoC T N P Y).2 := by
    intro N P Y
    unfold redoC
    split
    · rename_i hd
      have hf := fn_ne (isDef_fn hd).1
      split
      · exact h
      · split
        · intro d hd
          rcases dSet_me2 hd with q | q
          · exact h d q
          · rw [q]; exact ⟨hf.2.2.1, hf.2.2.2⟩
        · exact h
    · exact h
  have hundo : TNs (undoC T).2 := by
    unfold undoC
    split
    · exact h
    · split
      · exact h
      · exact fun d hd => h d (List.dropLast_subset T hd)
  unfold cmdF
  split <;> first | (split <;> first | exact h | exact hdef _ _ _ | exact hredo _ _ _ | exact hundo | (split <;> exact h)) | exact h
