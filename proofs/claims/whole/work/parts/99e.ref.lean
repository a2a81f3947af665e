def RKk (t : Int → Ob) (n : Int) (k : Nat) : Prop := n = ((k : Nat) : Int) ∧ ∀ j : Nat, j < k → t (j : Int) = yK (pm j)
theorem RKk.step {t t' : Int → Ob} {n n' z : Int} {k : Nat} (hk : k < 24) (h : RKk t n k) (he : Ext t n t' n') (hn : n' ≤ n + 1) (hz : Vl t' n' z (yK (pm k))) : RKk t' n' (k + 1) := by
  obtain ⟨h1, h2⟩ := h
  have hlt : ∀ a : Fin 24, pm a.val < 24 := by decide
  have hinj : ∀ a c : Fin 24, pm a.val = pm c.val → a = c := by decide
  have hzn : n ≤ z := by
    rcases Int.lt_or_le z n with c | c
    · exfalso
      have e1 := he.2 z hz.1 c
      have e2 := h2 z.toNat (by have := hz.1; omega)
      rw [show ((z.toNat : Nat) : Int) = z by have := hz.1; omega, ← e1, hz.2.2] at e2
      have e3 := congrArg kIx e2
      rw [kIx_k _ (hlt ⟨k, hk⟩), kIx_k _ (hlt ⟨z.toNat, by have := hz.1; omega⟩)] at e3
      have e4 := hinj ⟨k, hk⟩ ⟨z.toNat, by have := hz.1; omega⟩ e3
      have e5 := congrArg Fin.val e4
      simp only at e5
      have := hz.1
      omega
    · exact c
  have hzl := hz.2.1
  refine ⟨by omega, fun j hj => ?_⟩
  by_cases c : j = k
  · rw [c, show ((k : Nat) : Int) = z by omega]; exact hz.2.2
  · rw [he.2 _ (by omega) (by omega)]; exact h2 j (by omega)
theorem va_up3 {x : Nat → Int} {m n s : Int} {j : Nat} (h1 : j ≠ 17) (h2 : j ≠ 7) (h3 : j ≠ 10) : va_up (va_up (va_up x 17 m) 7 n) 10 s j = x j := by simp [va_up, h1, h2, h3]
def x00 : Nat → Int := va_up (va_up (va_up (fun _ => 0) 22 (-1)) 37 (-1)) 39 1000
/-- so many known names have been said -/
def SD (g : pw_P) (w0 w : pw_W) (b : Nat) (B : Nat → Nat) (k : Nat) : Prop :=
  ∃ (X : Nat → Int) (t : Int → Ob) (n : Int) (s : Nat) (Z fW : Int → Int), w 1000 = (b, some (mdE B X)) ∧ RS g w B t n s Z ∧ RKk t n k ∧ X 7 = n ∧ X 10 = ((s : Nat) : Int) ∧ s ≤ k ∧ (∀ j, (j ≠ 17 ∧ j ≠ 7 ∧ j ≠ 10) → X j = x00 j) ∧ w 1017 = (B 16, some (AI g 12 fW)) ∧ (∀ j, inI (fW j)) ∧ ∀ q, (q < 1000 ∨ (1010 < q ∧ q ≠ 1017) ∨ q = 1008) → w q = w0 q
theorem SD.step {g : pw_P} {w0 w w' : pw_W} {b : Nat} {B : Nat → Nat} {k : Nat} {X : Nat → Int} {t : Int → Ob} {n m : Int} {s : Nat} {r : Option Value} (hk : k < 24) (hK : RKk t n k) (hs : s ≤ k) (fe : ∀ j, (j ≠ 17 ∧ j ≠ 7 ∧ j ≠ 10) → X j = x00 j) (hf : ∀ q, (q < 1000 ∨ (1010 < q ∧ q ≠ 1017) ∨ q = 1008) → w q = w0 q) (h : rSd g w w' b B X t n s m (yK (pm k)) r) : r = none ∧ SD g w0 w' b B (k + 1) := by
  obtain ⟨z, t', n', s', Z', fW', h1, h2, h3, h4, h5, h6, h7, h8, h9, h10⟩ := h
  exact ⟨h1, _, t', n', s', Z', fW', h2, h3, RKk.step hk hK h4 h5 h7, rfl, rfl, by omega, fun j hj => (va_up3 hj.1 hj.2.1 hj.2.2).trans (fe j hj), h8, h9, fun q hq => (h10 q hq).trans (hf q hq)⟩
/-- what the reference's constructor makes -/
theorem MmI.first {g : pw_P} {w : pw_W} {b : Nat} {B : Nat → Nat} {X : Nat → Int} {t : Int → Ob} {n : Int} {s : Nat} {Z fW : Int → Int} (h0 : w 1000 = (b, some (mdE B X))) (hR : RS g w B t n s Z) (hk : RKk t n 24) (h7 : X 7 = n) (h10 : X 10 = ((s : Nat) : Int)) (fe : ∀ j, (j ≠ 17 ∧ j ≠ 7 ∧ j ≠ 10) → X j = x00 j) (y17 : w 1017 = (B 16, some (AI g 12 fW))) (u17 : ∀ j, inI (fW j)) (q11 : w 1012 = (B 11, some (AI g 20 (fun _ => 0)))) (q12 : w 1013 = (B 12, some (AI g 3000 (fun _ => 0)))) (q14 : w 1015 = (B 14, some (AI g 2000 (fun _ => 0)))) (q18 : w 1019 = (B 18, some (AI g 4000 (fun _ => 0)))) (q23 : w 1024 = (B 23, some (AI g 40 (fun _ => 0)))) (q24 : w 1025 = (B 24, some (AI g 40 (fun _ => 0)))) (q25 : w 1026 = (B 25, some (AI g 40 (fun _ => 0)))) (q26 : w 1027 = (B 26, some (AI g 40 (fun _ => 0)))) (q28 : w 1029 = (B 28, some (AI g 1100 (fun _ => 0)))) (q33 : w 1034 = (B 33, some (AI g 40 (fun _ => 0)))) (q34 : w 1035 = (B 34, some (AI g 40 (fun _ => 0)))) (q35 : w 1036 = (B 35, some (AI g 240 (fun _ => 0)))) (q36 : w 1037 = (B 36, some (AI g 40 (fun _ => 0)))) (q42 : w 1043 = (B 42, some (AI g 1200 (fun _ => 0)))) (q43 : w 1044 = (B 43, some (AI g 1200 (fun _ => 0)))) (q44 : w 1045 = (B 44, some (AI g 1200 (fun _ => 0)))) (q46 : w 1047 = (B 46, some (AI g 2400 (fun _ => 0)))) (q48 : w 1049 = (B 48, some (AI g 400 (fun _ => 0)))) (q50 : w 1051 = (B 50, some (AI g 130 (fun _ => 0)))) (q52 : w 1053 = (B 52, some (AI g 1000 (fun _ => 0)))) (q53 : w 1054 = (B 53, some (AI g 1000 (fun _ => 0)))) (q55 : w 1056 = (B 55, some (AI g 300 (fun _ => 0)))) (q56 : w 1057 = (B 56, some (AI g 300 (fun _ => 0)))) (q57 : w 1058 = (B 57, some (AI g 300 (fun _ => 0)))) (q58 : w 1059 = (B 58, some (AI g 300 (fun _ => 0)))) (q59 : w 1060 = (B 59, some (AI g 300 (fun _ => 0)))) (q60 : w 1061 = (B 60, some (AZ g 300 (fun _ => 0)))) (q62 : w 1063 = (B 62, some (AI g 2400 (fun _ => 0)))) (q68 : w 1069 = (B 68, some (AI g 1000 (fun _ => 0)))) : MmI g w b B (fun _ => 0) (fun _ => 0) 0 0 (-1) 1000 0 0 [] [] 24 s := by
  have hn24 : n = 24 := hk.1
  subst hn24
  have hRK : RK t 24 := ⟨by decide, hk.2⟩
  have hLo : Loo g w B := ⟨⟨_, _, _, _, q42, q43, q44, q46, (fun _ => (by decide : inI 0)), (fun _ => (by decide : inI 0)), (fun _ => (by decide : inI 0)), (fun _ => (by decide : inI 0))⟩, ⟨_, q48, (fun _ => (by decide : inI 0))⟩, ⟨_, q50, (fun _ => (by decide : inI 0))⟩, ⟨_, _, _, _, _, _, _, q55, q56, q57, q58, q59, q60, q62, (fun _ => (by decide : inI 0)), (fun _ => (by decide : inI 0)), (fun _ => (by decide : inI 0)), (fun _ => (by decide : inI 0)), (fun _ => (by decide : inI 0)), (fun _ => (by decide : inI 0)), (fun _ => (by decide : inI 0))⟩, ⟨_, _, q52, q53, (fun _ => (by decide : inI 0)), (fun _ => (by decide : inI 0))⟩, ⟨_, q18, (fun _ => (by decide : inI 0))⟩, ⟨_, q68, (fun _ => (by decide : inI 0))⟩⟩
  have hDD : MdD g w B t 24 [] := ⟨_, _, _, _, q33, q34, q35, q36, ⟨(fun _ => (by decide : inI 0)), (fun _ => (by decide : inI 0)), (fun _ => (by decide : inI 0)), (fun _ => (by decide : inI 0))⟩, trivial, by decide⟩
  have hOO : MOut g w B (X 15) [] := by rw [show X 15 = 0 from ((fe 15 (by decide)).trans rfl)]; exact ⟨_, q14, (fun _ => (by decide : inI 0)), ⟨rfl, fun j hj => absurd hj (by omega)⟩⟩
  have hAA : MdA g w B t 24 [] := ⟨_, _, _, _, _, q23, q24, q25, q26, q28, ⟨(fun _ => (by decide : inI 0)), (fun _ => (by decide : inI 0)), (fun _ => (by decide : inI 0)), (fun _ => (by decide : inI 0)), (fun _ => (by decide : inI 0))⟩, trivial, trivial⟩
  exact ⟨X, t, Z, fW, 0, ⟨h0, hR, hRK, hDD, hLo, hOO, h7, h10, ((fe 32 (by decide)).trans rfl), ((fe 37 (by decide)).trans rfl), ((fe 39 (by decide)).trans rfl), ((fe 40 (by decide)).trans rfl), ((fe 41 (by decide)).trans rfl), ((fe 45 (by decide)).trans rfl), ((fe 47 (by decide)).trans rfl), ((fe 69 (by decide)).trans rfl), by rw [show X 38 = 0 from ((fe 38 (by decide)).trans rfl)]; decide⟩, ⟨((fe 13 (by decide)).trans rfl), ((fe 21 (by decide)).trans rfl), ((fe 22 (by decide)).trans rfl)⟩, q11, (fun _ => (by decide : inI 0)), q12, fun _ => ⟨Int.le_refl _, by show (0 : Int) < 256; decide⟩, Nat.zero_le _, y17, u17, hAA⟩
set_option maxRecDepth 100000 in
set_option maxHeartbeats 4000000 in
/-- the names from 18 on -/
theorem init_s3 {g : pw_P} {p : Program} {l : Launch} {e : Env} {s : State} {m : MethodId} {args : Array Value} {below : List Frame} {meth : Method} {c : Code} {wa : pw_W} {b : Nat} {B : Nat → Nat} {w0 w1 : pw_W} {z1 : Int} (C : pw_C g p s m args meth c cX10_init 2 yX10_init.cls) (hr : meth.sig.returnType = none) (hS : SD g w0 w1 b B 18) (hwa : ∀ k, k < 1000 → w0 k = wa k) (q11 : w0 1012 = (B 11, some (AI g 20 (fun _ => 0)))) (q12 : w0 1013 = (B 12, some (AI g 3000 (fun _ => 0)))) (q14 : w0 1015 = (B 14, some (AI g 2000 (fun _ => 0)))) (q18 : w0 1019 = (B 18, some (AI g 4000 (fun _ => 0)))) (q23 : w0 1024 = (B 23, some (AI g 40 (fun _ => 0)))) (q24 : w0 1025 = (B 24, some (AI g 40 (fun _ => 0)))) (q25 : w0 1026 = (B 25, some (AI g 40 (fun _ => 0)))) (q26 : w0 1027 = (B 26, some (AI g 40 (fun _ => 0)))) (q28 : w0 1029 = (B 28, some (AI g 1100 (fun _ => 0)))) (q33 : w0 1034 = (B 33, some (AI g 40 (fun _ => 0)))) (q34 : w0 1035 = (B 34, some (AI g 40 (fun _ => 0)))) (q35 : w0 1036 = (B 35, some (AI g 240 (fun _ => 0)))) (q36 : w0 1037 = (B 36, some (AI g 40 (fun _ => 0)))) (q42 : w0 1043 = (B 42, some (AI g 1200 (fun _ => 0)))) (q43 : w0 1044 = (B 43, some (AI g 1200 (fun _ => 0)))) (q44 : w0 1045 = (B 44, some (AI g 1200 (fun _ => 0)))) (q46 : w0 1047 = (B 46, some (AI g 2400 (fun _ => 0)))) (q48 : w0 1049 = (B 48, some (AI g 400 (fun _ => 0)))) (q50 : w0 1051 = (B 50, some (AI g 130 (fun _ => 0)))) (q52 : w0 1053 = (B 52, some (AI g 1000 (fun _ => 0)))) (q53 : w0 1054 = (B 53, some (AI g 1000 (fun _ => 0)))) (q55 : w0 1056 = (B 55, some (AI g 300 (fun _ => 0)))) (q56 : w0 1057 = (B 56, some (AI g 300 (fun _ => 0)))) (q57 : w0 1058 = (B 57, some (AI g 300 (fun _ => 0)))) (q58 : w0 1059 = (B 58, some (AI g 300 (fun _ => 0)))) (q59 : w0 1060 = (B 59, some (AI g 300 (fun _ => 0)))) (q60 : w0 1061 = (B 60, some (AZ g 300 (fun _ => 0)))) (q62 : w0 1063 = (B 62, some (AI g 2400 (fun _ => 0)))) (q68 : w0 1069 = (B 68, some (AI g 1000 (fun _ => 0)))) : pw_G g p l e { frames := 3, cells := 39, slots := 324574, locals := 76 } s m args below meth c 2 (pw_Q g below (fun r w' => r = none ∧ (∃ (B : Nat → Nat) (s' : Nat), s' ≤ 24 ∧ MmI g w' b B (fun _ => 0) (fun _ => 0) 0 0 (-1) 1000 0 0 [] [] 24 s') ∧ ∀ k, k < 1000 → w' k = wa k) args s { frames := 3, cells := 39, slots := 324574, locals := 76 }) 39 324574 660 [(0, .ref b), (1, .int (iZ z1))] [] w1 := by
  refine pw_aload_n (i := 0) C dX10_init_660 rfl rfl (Or.inr ⟨_, rfl⟩) ?_
  refine pw_bipush C dX10_init_661 (by decide) ?_
  refine pw_bipush C dX10_init_663 (by decide) ?_
  refine pw_bipush C dX10_init_665 (by decide) ?_
  refine pw_bipush C dX10_init_667 (by decide) ?_
  refine pw_iconst C dX10_init_669 ?_
  refine pw_iconst C dX10_init_670 ?_
  refine pw_iconst C dX10_init_671 ?_
  refine pw_iconst C dX10_init_672 ?_
  obtain ⟨X, t, n, sn, Z, fW, c1, c2, c3, c4, c5, c6, c7, c8, c9, c10⟩ := hS
  have c31 := c3.1
  refine pw_callV (As := [.int (iZ 101), .int (iZ 118), .int (iZ 97), .int (iZ 108), .int (iZ 0), .int (iZ 0), .int (iZ 0), .int (iZ 0)]) (st := []) C (m_X10_said4 g l c1 c2 c4 c5 c8 c9 (by decide) (by decide) (by decide +kernel) (by decide) (by decide) (by decide +kernel) (by decide) (by decide) (by decide +kernel) (by decide) (by decide) (by decide +kernel) (by omega) (by omega)) my_X10_said ml_X10_141 (pw_rec.of C c1 cl_X10.1) rfl ⟨Nat.le_of_ble_eq_true rfl, Nat.le_of_ble_eq_true rfl⟩ ⟨by (try dsimp only); omega, by (try dsimp only); omega⟩ rfl (Nat.le_of_ble_eq_true rfl) dX10_init_673 ?_
  intro rr wq hh
  rw [show Term.index (spN [101, 118, 97, 108]) = yK (pm 18) from congrArg Term.index (by decide +kernel)] at hh
  obtain ⟨rfl, hS18⟩ := SD.step (by decide) c3 c6 c7 c10 hh
  clear hh c1 c2 c3 c4 c5 c6 c7 c8 c9 c10 c31
  refine pw_stk (st' := []) rfl ?_
  refine pw_aload_n (i := 0) C dX10_init_676 rfl rfl (Or.inr ⟨_, rfl⟩) ?_
  refine pw_bipush C dX10_init_677 (by decide) ?_
  refine pw_bipush C dX10_init_679 (by decide) ?_
  refine pw_bipush C dX10_init_681 (by decide) ?_
  refine pw_bipush C dX10_init_683 (by decide) ?_
  refine pw_iconst C dX10_init_685 ?_
  refine pw_iconst C dX10_init_686 ?_
  refine pw_iconst C dX10_init_687 ?_
  refine pw_iconst C dX10_init_688 ?_
  obtain ⟨X, t, n, sn, Z, fW, c1, c2, c3, c4, c5, c6, c7, c8, c9, c10⟩ := hS18
  have c31 := c3.1
  refine pw_callV (As := [.int (iZ 119), .int (iZ 105), .int (iZ 116), .int (iZ 104), .int (iZ 0), .int (iZ 0), .int (iZ 0), .int (iZ 0)]) (st := []) C (m_X10_said4 g l c1 c2 c4 c5 c8 c9 (by decide) (by decide) (by decide +kernel) (by decide) (by decide) (by decide +kernel) (by decide) (by decide) (by decide +kernel) (by decide) (by decide) (by decide +kernel) (by omega) (by omega)) my_X10_said ml_X10_141 (pw_rec.of C c1 cl_X10.1) rfl ⟨Nat.le_of_ble_eq_true rfl, Nat.le_of_ble_eq_true rfl⟩ ⟨by (try dsimp only); omega, by (try dsimp only); omega⟩ rfl (Nat.le_of_ble_eq_true rfl) dX10_init_689 ?_
  intro rr wq hh
  rw [show Term.index (spN [119, 105, 116, 104]) = yK (pm 19) from congrArg Term.index (by decide +kernel)] at hh
  obtain ⟨rfl, hS19⟩ := SD.step (by decide) c3 c6 c7 c10 hh
  clear hh c1 c2 c3 c4 c5 c6 c7 c8 c9 c10 c31
  refine pw_stk (st' := []) rfl ?_
  refine pw_aload_n (i := 0) C dX10_init_692 rfl rfl (Or.inr ⟨_, rfl⟩) ?_
  refine pw_bipush C dX10_init_693 (by decide) ?_
  refine pw_bipush C dX10_init_695 (by decide) ?_
  refine pw_bipush C dX10_init_697 (by decide) ?_
  refine pw_iconst C dX10_init_699 ?_
  refine pw_iconst C dX10_init_700 ?_
  refine pw_iconst C dX10_init_701 ?_
  refine pw_iconst C dX10_init_702 ?_
  refine pw_iconst C dX10_init_703 ?_
  obtain ⟨X, t, n, sn, Z, fW, c1, c2, c3, c4, c5, c6, c7, c8, c9, c10⟩ := hS19
  have c31 := c3.1
  refine pw_callV (As := [.int (iZ 109), .int (iZ 97), .int (iZ 112), .int (iZ 0), .int (iZ 0), .int (iZ 0), .int (iZ 0), .int (iZ 0)]) (st := []) C (m_X10_said3 g l c1 c2 c4 c5 c8 c9 (by decide) (by decide) (by decide +kernel) (by decide) (by decide) (by decide +kernel) (by decide) (by decide) (by decide +kernel) (by omega) (by omega)) my_X10_said ml_X10_141 (pw_rec.of C c1 cl_X10.1) rfl ⟨Nat.le_of_ble_eq_true rfl, Nat.le_of_ble_eq_true rfl⟩ ⟨by (try dsimp only); omega, by (try dsimp only); omega⟩ rfl (Nat.le_of_ble_eq_true rfl) dX10_init_704 ?_
  intro rr wq hh
  rw [show Term.index (spN [109, 97, 112]) = yK (pm 20) from congrArg Term.index (by decide +kernel)] at hh
  obtain ⟨rfl, hS20⟩ := SD.step (by decide) c3 c6 c7 c10 hh
  clear hh c1 c2 c3 c4 c5 c6 c7 c8 c9 c10 c31
  refine pw_stk (st' := []) rfl ?_
  refine pw_aload_n (i := 0) C dX10_init_707 rfl rfl (Or.inr ⟨_, rfl⟩) ?_
  refine pw_bipush C dX10_init_708 (by decide) ?_
  refine pw_bipush C dX10_init_710 (by decide) ?_
  refine pw_bipush C dX10_init_712 (by decide) ?_
  refine pw_bipush C dX10_init_714 (by decide) ?_
  refine pw_iconst C dX10_init_716 ?_
  refine pw_iconst C dX10_init_717 ?_
  refine pw_iconst C dX10_init_718 ?_
  refine pw_iconst C dX10_init_719 ?_
  obtain ⟨X, t, n, sn, Z, fW, c1, c2, c3, c4, c5, c6, c7, c8, c9, c10⟩ := hS20
  have c31 := c3.1
  refine pw_callV (As := [.int (iZ 114), .int (iZ 101), .int (iZ 100), .int (iZ 111), .int (iZ 0), .int (iZ 0), .int (iZ 0), .int (iZ 0)]) (st := []) C (m_X10_said4 g l c1 c2 c4 c5 c8 c9 (by decide) (by decide) (by decide +kernel) (by decide) (by decide) (by decide +kernel) (by decide) (by decide) (by decide +kernel) (by decide) (by decide) (by decide +kernel) (by omega) (by omega)) my_X10_said ml_X10_141 (pw_rec.of C c1 cl_X10.1) rfl ⟨Nat.le_of_ble_eq_true rfl, Nat.le_of_ble_eq_true rfl⟩ ⟨by (try dsimp only); omega, by (try dsimp only); omega⟩ rfl (Nat.le_of_ble_eq_true rfl) dX10_init_720 ?_
  intro rr wq hh
  rw [show Term.index (spN [114, 101, 100, 111]) = yK (pm 21) from congrArg Term.index (by decide +kernel)] at hh
  obtain ⟨rfl, hS21⟩ := SD.step (by decide) c3 c6 c7 c10 hh
  clear hh c1 c2 c3 c4 c5 c6 c7 c8 c9 c10 c31
  refine pw_stk (st' := []) rfl ?_
  refine pw_aload_n (i := 0) C dX10_init_723 rfl rfl (Or.inr ⟨_, rfl⟩) ?_
  refine pw_bipush C dX10_init_724 (by decide) ?_
  refine pw_bipush C dX10_init_726 (by decide) ?_
  refine pw_bipush C dX10_init_728 (by decide) ?_
  refine pw_bipush C dX10_init_730 (by decide) ?_
  refine pw_iconst C dX10_init_732 ?_
  refine pw_iconst C dX10_init_733 ?_
  refine pw_iconst C dX10_init_734 ?_
  refine pw_iconst C dX10_init_735 ?_
  obtain ⟨X, t, n, sn, Z, fW, c1, c2, c3, c4, c5, c6, c7, c8, c9, c10⟩ := hS21
  have c31 := c3.1
  refine pw_callV (As := [.int (iZ 117), .int (iZ 110), .int (iZ 100), .int (iZ 111), .int (iZ 0), .int (iZ 0), .int (iZ 0), .int (iZ 0)]) (st := []) C (m_X10_said4 g l c1 c2 c4 c5 c8 c9 (by decide) (by decide) (by decide +kernel) (by decide) (by decide) (by decide +kernel) (by decide) (by decide) (by decide +kernel) (by decide) (by decide) (by decide +kernel) (by omega) (by omega)) my_X10_said ml_X10_141 (pw_rec.of C c1 cl_X10.1) rfl ⟨Nat.le_of_ble_eq_true rfl, Nat.le_of_ble_eq_true rfl⟩ ⟨by (try dsimp only); omega, by (try dsimp only); omega⟩ rfl (Nat.le_of_ble_eq_true rfl) dX10_init_736 ?_
  intro rr wq hh
  rw [show Term.index (spN [117, 110, 100, 111]) = yK (pm 22) from congrArg Term.index (by decide +kernel)] at hh
  obtain ⟨rfl, hS22⟩ := SD.step (by decide) c3 c6 c7 c10 hh
  clear hh c1 c2 c3 c4 c5 c6 c7 c8 c9 c10 c31
  refine pw_stk (st' := []) rfl ?_
  refine pw_aload_n (i := 0) C dX10_init_739 rfl rfl (Or.inr ⟨_, rfl⟩) ?_
  refine pw_bipush C dX10_init_740 (by decide) ?_
  refine pw_bipush C dX10_init_742 (by decide) ?_
  refine pw_bipush C dX10_init_744 (by decide) ?_
  refine pw_bipush C dX10_init_746 (by decide) ?_
  refine pw_iconst C dX10_init_748 ?_
  refine pw_iconst C dX10_init_749 ?_
  refine pw_iconst C dX10_init_750 ?_
  refine pw_iconst C dX10_init_751 ?_
  obtain ⟨X, t, n, sn, Z, fW, c1, c2, c3, c4, c5, c6, c7, c8, c9, c10⟩ := hS22
  have c31 := c3.1
  refine pw_callV (As := [.int (iZ 115), .int (iZ 104), .int (iZ 111), .int (iZ 119), .int (iZ 0), .int (iZ 0), .int (iZ 0), .int (iZ 0)]) (st := []) C (m_X10_said4 g l c1 c2 c4 c5 c8 c9 (by decide) (by decide) (by decide +kernel) (by decide) (by decide) (by decide +kernel) (by decide) (by decide) (by decide +kernel) (by decide) (by decide) (by decide +kernel) (by omega) (by omega)) my_X10_said ml_X10_141 (pw_rec.of C c1 cl_X10.1) rfl ⟨Nat.le_of_ble_eq_true rfl, Nat.le_of_ble_eq_true rfl⟩ ⟨by (try dsimp only); omega, by (try dsimp only); omega⟩ rfl (Nat.le_of_ble_eq_true rfl) dX10_init_752 ?_
  intro rr wq hh
  rw [show Term.index (spN [115, 104, 111, 119]) = yK (pm 23) from congrArg Term.index (by decide +kernel)] at hh
  obtain ⟨rfl, hS23⟩ := SD.step (by decide) c3 c6 c7 c10 hh
  clear hh c1 c2 c3 c4 c5 c6 c7 c8 c9 c10 c31
  refine pw_stk (st' := []) rfl ?_
  obtain ⟨X, t, n, sn, Z, fW, c1, c2, c3, c4, c5, c6, c7, c8, c9, c10⟩ := hS23
  exact pw_vret C hr dX10_init_755 ⟨rfl, ⟨B, sn, c6, MmI.first c1 c2 c3 c4 c5 c7 c8 c9 ((c10 1012 (by omega)).trans q11) ((c10 1013 (by omega)).trans q12) ((c10 1015 (by omega)).trans q14) ((c10 1019 (by omega)).trans q18) ((c10 1024 (by omega)).trans q23) ((c10 1025 (by omega)).trans q24) ((c10 1026 (by omega)).trans q25) ((c10 1027 (by omega)).trans q26) ((c10 1029 (by omega)).trans q28) ((c10 1034 (by omega)).trans q33) ((c10 1035 (by omega)).trans q34) ((c10 1036 (by omega)).trans q35) ((c10 1037 (by omega)).trans q36) ((c10 1043 (by omega)).trans q42) ((c10 1044 (by omega)).trans q43) ((c10 1045 (by omega)).trans q44) ((c10 1047 (by omega)).trans q46) ((c10 1049 (by omega)).trans q48) ((c10 1051 (by omega)).trans q50) ((c10 1053 (by omega)).trans q52) ((c10 1054 (by omega)).trans q53) ((c10 1056 (by omega)).trans q55) ((c10 1057 (by omega)).trans q56) ((c10 1058 (by omega)).trans q57) ((c10 1059 (by omega)).trans q58) ((c10 1060 (by omega)).trans q59) ((c10 1061 (by omega)).trans q60) ((c10 1063 (by omega)).trans q62) ((c10 1069 (by omega)).trans q68)⟩, fun k hk => (c10 k (by omega)).trans (hwa k hk)⟩
set_option maxRecDepth 100000 in
set_option maxHeartbeats 4000000 in
/-- the names from 12 on -/
theorem init_s2 {g : pw_P} {p : Program} {l : Launch} {e : Env} {s : State} {m : MethodId} {args : Array Value} {below : List Frame} {meth : Method} {c : Code} {wa : pw_W} {b : Nat} {B : Nat → Nat} {w0 w1 : pw_W} {z1 : Int} (C : pw_C g p s m args meth c cX10_init 2 yX10_init.cls) (hr : meth.sig.returnType = none) (hS : SD g w0 w1 b B 12) (hwa : ∀ k, k < 1000 → w0 k = wa k) (q11 : w0 1012 = (B 11, some (AI g 20 (fun _ => 0)))) (q12 : w0 1013 = (B 12, some (AI g 3000 (fun _ => 0)))) (q14 : w0 1015 = (B 14, some (AI g 2000 (fun _ => 0)))) (q18 : w0 1019 = (B 18, some (AI g 4000 (fun _ => 0)))) (q23 : w0 1024 = (B 23, some (AI g 40 (fun _ => 0)))) (q24 : w0 1025 = (B 24, some (AI g 40 (fun _ => 0)))) (q25 : w0 1026 = (B 25, some (AI g 40 (fun _ => 0)))) (q26 : w0 1027 = (B 26, some (AI g 40 (fun _ => 0)))) (q28 : w0 1029 = (B 28, some (AI g 1100 (fun _ => 0)))) (q33 : w0 1034 = (B 33, some (AI g 40 (fun _ => 0)))) (q34 : w0 1035 = (B 34, some (AI g 40 (fun _ => 0)))) (q35 : w0 1036 = (B 35, some (AI g 240 (fun _ => 0)))) (q36 : w0 1037 = (B 36, some (AI g 40 (fun _ => 0)))) (q42 : w0 1043 = (B 42, some (AI g 1200 (fun _ => 0)))) (q43 : w0 1044 = (B 43, some (AI g 1200 (fun _ => 0)))) (q44 : w0 1045 = (B 44, some (AI g 1200 (fun _ => 0)))) (q46 : w0 1047 = (B 46, some (AI g 2400 (fun _ => 0)))) (q48 : w0 1049 = (B 48, some (AI g 400 (fun _ => 0)))) (q50 : w0 1051 = (B 50, some (AI g 130 (fun _ => 0)))) (q52 : w0 1053 = (B 52, some (AI g 1000 (fun _ => 0)))) (q53 : w0 1054 = (B 53, some (AI g 1000 (fun _ => 0)))) (q55 : w0 1056 = (B 55, some (AI g 300 (fun _ => 0)))) (q56 : w0 1057 = (B 56, some (AI g 300 (fun _ => 0)))) (q57 : w0 1058 = (B 57, some (AI g 300 (fun _ => 0)))) (q58 : w0 1059 = (B 58, some (AI g 300 (fun _ => 0)))) (q59 : w0 1060 = (B 59, some (AI g 300 (fun _ => 0)))) (q60 : w0 1061 = (B 60, some (AZ g 300 (fun _ => 0)))) (q62 : w0 1063 = (B 62, some (AI g 2400 (fun _ => 0)))) (q68 : w0 1069 = (B 68, some (AI g 1000 (fun _ => 0)))) : pw_G g p l e { frames := 3, cells := 39, slots := 324574, locals := 76 } s m args below meth c 2 (pw_Q g below (fun r w' => r = none ∧ (∃ (B : Nat → Nat) (s' : Nat), s' ≤ 24 ∧ MmI g w' b B (fun _ => 0) (fun _ => 0) 0 0 (-1) 1000 0 0 [] [] 24 s') ∧ ∀ k, k < 1000 → w' k = wa k) args s { frames := 3, cells := 39, slots := 324574, locals := 76 }) 39 324574 560 [(0, .ref b), (1, .int (iZ z1))] [] w1 := by
  refine pw_aload_n (i := 0) C dX10_init_560 rfl rfl (Or.inr ⟨_, rfl⟩) ?_
  refine pw_bipush C dX10_init_561 (by decide) ?_
  refine pw_bipush C dX10_init_563 (by decide) ?_
  refine pw_bipush C dX10_init_565 (by decide) ?_
  refine pw_iconst C dX10_init_567 ?_
  refine pw_iconst C dX10_init_568 ?_
  refine pw_iconst C dX10_init_569 ?_
  refine pw_iconst C dX10_init_570 ?_
  refine pw_iconst C dX10_init_571 ?_
  obtain ⟨X, t, n, sn, Z, fW, c1, c2, c3, c4, c5, c6, c7, c8, c9, c10⟩ := hS
  have c31 := c3.1
  refine pw_callV (As := [.int (iZ 99), .int (iZ 100), .int (iZ 114), .int (iZ 0), .int (iZ 0), .int (iZ 0), .int (iZ 0), .int (iZ 0)]) (st := []) C (m_X10_said3 g l c1 c2 c4 c5 c8 c9 (by decide) (by decide) (by decide +kernel) (by decide) (by decide) (by decide +kernel) (by decide) (by decide) (by decide +kernel) (by omega) (by omega)) my_X10_said ml_X10_141 (pw_rec.of C c1 cl_X10.1) rfl ⟨Nat.le_of_ble_eq_true rfl, Nat.le_of_ble_eq_true rfl⟩ ⟨by (try dsimp only); omega, by (try dsimp only); omega⟩ rfl (Nat.le_of_ble_eq_true rfl) dX10_init_572 ?_
  intro rr wq hh
  rw [show Term.index (spN [99, 100, 114]) = yK (pm 12) from congrArg Term.index (by decide +kernel)] at hh
  obtain ⟨rfl, hS12⟩ := SD.step (by decide) c3 c6 c7 c10 hh
  clear hh c1 c2 c3 c4 c5 c6 c7 c8 c9 c10 c31
  refine pw_stk (st' := []) rfl ?_
  refine pw_aload_n (i := 0) C dX10_init_575 rfl rfl (Or.inr ⟨_, rfl⟩) ?_
  refine pw_bipush C dX10_init_576 (by decide) ?_
  refine pw_bipush C dX10_init_578 (by decide) ?_
  refine pw_bipush C dX10_init_580 (by decide) ?_
  refine pw_bipush C dX10_init_582 (by decide) ?_
  refine pw_iconst C dX10_init_584 ?_
  refine pw_iconst C dX10_init_585 ?_
  refine pw_iconst C dX10_init_586 ?_
  refine pw_iconst C dX10_init_587 ?_
  obtain ⟨X, t, n, sn, Z, fW, c1, c2, c3, c4, c5, c6, c7, c8, c9, c10⟩ := hS12
  have c31 := c3.1
  refine pw_callV (As := [.int (iZ 110), .int (iZ 97), .int (iZ 116), .int (iZ 112), .int (iZ 0), .int (iZ 0), .int (iZ 0), .int (iZ 0)]) (st := []) C (m_X10_said4 g l c1 c2 c4 c5 c8 c9 (by decide) (by decide) (by decide +kernel) (by decide) (by decide) (by decide +kernel) (by decide) (by decide) (by decide +kernel) (by decide) (by decide) (by decide +kernel) (by omega) (by omega)) my_X10_said ml_X10_141 (pw_rec.of C c1 cl_X10.1) rfl ⟨Nat.le_of_ble_eq_true rfl, Nat.le_of_ble_eq_true rfl⟩ ⟨by (try dsimp only); omega, by (try dsimp only); omega⟩ rfl (Nat.le_of_ble_eq_true rfl) dX10_init_588 ?_
  intro rr wq hh
  rw [show Term.index (spN [110, 97, 116, 112]) = yK (pm 13) from congrArg Term.index (by decide +kernel)] at hh
  obtain ⟨rfl, hS13⟩ := SD.step (by decide) c3 c6 c7 c10 hh
  clear hh c1 c2 c3 c4 c5 c6 c7 c8 c9 c10 c31
  refine pw_stk (st' := []) rfl ?_
  refine pw_aload_n (i := 0) C dX10_init_591 rfl rfl (Or.inr ⟨_, rfl⟩) ?_
  refine pw_bipush C dX10_init_592 (by decide) ?_
  refine pw_bipush C dX10_init_594 (by decide) ?_
  refine pw_bipush C dX10_init_596 (by decide) ?_
  refine pw_bipush C dX10_init_598 (by decide) ?_
  refine pw_bipush C dX10_init_600 (by decide) ?_
  refine pw_bipush C dX10_init_602 (by decide) ?_
  refine pw_bipush C dX10_init_604 (by decide) ?_
  refine pw_iconst C dX10_init_606 ?_
  obtain ⟨X, t, n, sn, Z, fW, c1, c2, c3, c4, c5, c6, c7, c8, c9, c10⟩ := hS13
  have c31 := c3.1
  refine pw_callV (As := [.int (iZ 115), .int (iZ 121), .int (iZ 109), .int (iZ 98), .int (iZ 111), .int (iZ 108), .int (iZ 112), .int (iZ 0)]) (st := []) C (m_X10_said7 g l c1 c2 c4 c5 c8 c9 (by decide) (by decide) (by decide +kernel) (by decide) (by decide) (by decide +kernel) (by decide) (by decide) (by decide +kernel) (by decide) (by decide) (by decide +kernel) (by decide) (by decide) (by decide +kernel) (by decide) (by decide) (by decide +kernel) (by decide) (by decide) (by decide +kernel) (by omega) (by omega)) my_X10_said ml_X10_141 (pw_rec.of C c1 cl_X10.1) rfl ⟨Nat.le_of_ble_eq_true rfl, Nat.le_of_ble_eq_true rfl⟩ ⟨by (try dsimp only); omega, by (try dsimp only); omega⟩ rfl (Nat.le_of_ble_eq_true rfl) dX10_init_607 ?_
  intro rr wq hh
  rw [show Term.index (spN [115, 121, 109, 98, 111, 108, 112]) = yK (pm 14) from congrArg Term.index (by decide +kernel)] at hh
  obtain ⟨rfl, hS14⟩ := SD.step (by decide) c3 c6 c7 c10 hh
  clear hh c1 c2 c3 c4 c5 c6 c7 c8 c9 c10 c31
  refine pw_stk (st' := []) rfl ?_
  refine pw_aload_n (i := 0) C dX10_init_610 rfl rfl (Or.inr ⟨_, rfl⟩) ?_
  refine pw_bipush C dX10_init_611 (by decide) ?_
  refine pw_bipush C dX10_init_613 (by decide) ?_
  refine pw_bipush C dX10_init_615 (by decide) ?_
  refine pw_iconst C dX10_init_617 ?_
  refine pw_iconst C dX10_init_618 ?_
  refine pw_iconst C dX10_init_619 ?_
  refine pw_iconst C dX10_init_620 ?_
  refine pw_iconst C dX10_init_621 ?_
  obtain ⟨X, t, n, sn, Z, fW, c1, c2, c3, c4, c5, c6, c7, c8, c9, c10⟩ := hS14
  have c31 := c3.1
  refine pw_callV (As := [.int (iZ 110), .int (iZ 111), .int (iZ 116), .int (iZ 0), .int (iZ 0), .int (iZ 0), .int (iZ 0), .int (iZ 0)]) (st := []) C (m_X10_said3 g l c1 c2 c4 c5 c8 c9 (by decide) (by decide) (by decide +kernel) (by decide) (by decide) (by decide +kernel) (by decide) (by decide) (by decide +kernel) (by omega) (by omega)) my_X10_said ml_X10_141 (pw_rec.of C c1 cl_X10.1) rfl ⟨Nat.le_of_ble_eq_true rfl, Nat.le_of_ble_eq_true rfl⟩ ⟨by (try dsimp only); omega, by (try dsimp only); omega⟩ rfl (Nat.le_of_ble_eq_true rfl) dX10_init_622 ?_
  intro rr wq hh
  rw [show Term.index (spN [110, 111, 116]) = yK (pm 15) from congrArg Term.index (by decide +kernel)] at hh
  obtain ⟨rfl, hS15⟩ := SD.step (by decide) c3 c6 c7 c10 hh
  clear hh c1 c2 c3 c4 c5 c6 c7 c8 c9 c10 c31
  refine pw_stk (st' := []) rfl ?_
  refine pw_aload_n (i := 0) C dX10_init_625 rfl rfl (Or.inr ⟨_, rfl⟩) ?_
  refine pw_bipush C dX10_init_626 (by decide) ?_
  refine pw_bipush C dX10_init_628 (by decide) ?_
  refine pw_bipush C dX10_init_630 (by decide) ?_
  refine pw_bipush C dX10_init_632 (by decide) ?_
  refine pw_bipush C dX10_init_634 (by decide) ?_
  refine pw_bipush C dX10_init_636 (by decide) ?_
  refine pw_iconst C dX10_init_638 ?_
  refine pw_iconst C dX10_init_639 ?_
  obtain ⟨X, t, n, sn, Z, fW, c1, c2, c3, c4, c5, c6, c7, c8, c9, c10⟩ := hS15
  have c31 := c3.1
  refine pw_callV (As := [.int (iZ 104), .int (iZ 101), .int (iZ 105), .int (iZ 103), .int (iZ 104), .int (iZ 116), .int (iZ 0), .int (iZ 0)]) (st := []) C (m_X10_said6 g l c1 c2 c4 c5 c8 c9 (by decide) (by decide) (by decide +kernel) (by decide) (by decide) (by decide +kernel) (by decide) (by decide) (by decide +kernel) (by decide) (by decide) (by decide +kernel) (by decide) (by decide) (by decide +kernel) (by decide) (by decide) (by decide +kernel) (by omega) (by omega)) my_X10_said ml_X10_141 (pw_rec.of C c1 cl_X10.1) rfl ⟨Nat.le_of_ble_eq_true rfl, Nat.le_of_ble_eq_true rfl⟩ ⟨by (try dsimp only); omega, by (try dsimp only); omega⟩ rfl (Nat.le_of_ble_eq_true rfl) dX10_init_640 ?_
  intro rr wq hh
  rw [show Term.index (spN [104, 101, 105, 103, 104, 116]) = yK (pm 16) from congrArg Term.index (by decide +kernel)] at hh
  obtain ⟨rfl, hS16⟩ := SD.step (by decide) c3 c6 c7 c10 hh
  clear hh c1 c2 c3 c4 c5 c6 c7 c8 c9 c10 c31
  refine pw_stk (st' := []) rfl ?_
  refine pw_aload_n (i := 0) C dX10_init_643 rfl rfl (Or.inr ⟨_, rfl⟩) ?_
  refine pw_bipush C dX10_init_644 (by decide) ?_
  refine pw_bipush C dX10_init_646 (by decide) ?_
  refine pw_bipush C dX10_init_648 (by decide) ?_
  refine pw_bipush C dX10_init_650 (by decide) ?_
  refine pw_bipush C dX10_init_652 (by decide) ?_
  refine pw_iconst C dX10_init_654 ?_
  refine pw_iconst C dX10_init_655 ?_
  refine pw_iconst C dX10_init_656 ?_
  obtain ⟨X, t, n, sn, Z, fW, c1, c2, c3, c4, c5, c6, c7, c8, c9, c10⟩ := hS16
  have c31 := c3.1
  refine pw_callV (As := [.int (iZ 100), .int (iZ 101), .int (iZ 102), .int (iZ 117), .int (iZ 110), .int (iZ 0), .int (iZ 0), .int (iZ 0)]) (st := []) C (m_X10_said5 g l c1 c2 c4 c5 c8 c9 (by decide) (by decide) (by decide +kernel) (by decide) (by decide) (by decide +kernel) (by decide) (by decide) (by decide +kernel) (by decide) (by decide) (by decide +kernel) (by decide) (by decide) (by decide +kernel) (by omega) (by omega)) my_X10_said ml_X10_141 (pw_rec.of C c1 cl_X10.1) rfl ⟨Nat.le_of_ble_eq_true rfl, Nat.le_of_ble_eq_true rfl⟩ ⟨by (try dsimp only); omega, by (try dsimp only); omega⟩ rfl (Nat.le_of_ble_eq_true rfl) dX10_init_657 ?_
  intro rr wq hh
  rw [show Term.index (spN [100, 101, 102, 117, 110]) = yK (pm 17) from congrArg Term.index (by decide +kernel)] at hh
  obtain ⟨rfl, hS17⟩ := SD.step (by decide) c3 c6 c7 c10 hh
  clear hh c1 c2 c3 c4 c5 c6 c7 c8 c9 c10 c31
  refine pw_stk (st' := []) rfl ?_
  exact init_s3 C hr hS17 hwa q11 q12 q14 q18 q23 q24 q25 q26 q28 q33 q34 q35 q36 q42 q43 q44 q46 q48 q50 q52 q53 q55 q56 q57 q58 q59 q60 q62 q68
set_option maxRecDepth 100000 in
set_option maxHeartbeats 4000000 in
/-- the names from 6 on -/
theorem init_s1 {g : pw_P} {p : Program} {l : Launch} {e : Env} {s : State} {m : MethodId} {args : Array Value} {below : List Frame} {meth : Method} {c : Code} {wa : pw_W} {b : Nat} {B : Nat → Nat} {w0 w1 : pw_W} {z1 : Int} (C : pw_C g p s m args meth c cX10_init 2 yX10_init.cls) (hr : meth.sig.returnType = none) (hS : SD g w0 w1 b B 6) (hwa : ∀ k, k < 1000 → w0 k = wa k) (q11 : w0 1012 = (B 11, some (AI g 20 (fun _ => 0)))) (q12 : w0 1013 = (B 12, some (AI g 3000 (fun _ => 0)))) (q14 : w0 1015 = (B 14, some (AI g 2000 (fun _ => 0)))) (q18 : w0 1019 = (B 18, some (AI g 4000 (fun _ => 0)))) (q23 : w0 1024 = (B 23, some (AI g 40 (fun _ => 0)))) (q24 : w0 1025 = (B 24, some (AI g 40 (fun _ => 0)))) (q25 : w0 1026 = (B 25, some (AI g 40 (fun _ => 0)))) (q26 : w0 1027 = (B 26, some (AI g 40 (fun _ => 0)))) (q28 : w0 1029 = (B 28, some (AI g 1100 (fun _ => 0)))) (q33 : w0 1034 = (B 33, some (AI g 40 (fun _ => 0)))) (q34 : w0 1035 = (B 34, some (AI g 40 (fun _ => 0)))) (q35 : w0 1036 = (B 35, some (AI g 240 (fun _ => 0)))) (q36 : w0 1037 = (B 36, some (AI g 40 (fun _ => 0)))) (q42 : w0 1043 = (B 42, some (AI g 1200 (fun _ => 0)))) (q43 : w0 1044 = (B 43, some (AI g 1200 (fun _ => 0)))) (q44 : w0 1045 = (B 44, some (AI g 1200 (fun _ => 0)))) (q46 : w0 1047 = (B 46, some (AI g 2400 (fun _ => 0)))) (q48 : w0 1049 = (B 48, some (AI g 400 (fun _ => 0)))) (q50 : w0 1051 = (B 50, some (AI g 130 (fun _ => 0)))) (q52 : w0 1053 = (B 52, some (AI g 1000 (fun _ => 0)))) (q53 : w0 1054 = (B 53, some (AI g 1000 (fun _ => 0)))) (q55 : w0 1056 = (B 55, some (AI g 300 (fun _ => 0)))) (q56 : w0 1057 = (B 56, some (AI g 300 (fun _ => 0)))) (q57 : w0 1058 = (B 57, some (AI g 300 (fun _ => 0)))) (q58 : w0 1059 = (B 58, some (AI g 300 (fun _ => 0)))) (q59 : w0 1060 = (B 59, some (AI g 300 (fun _ => 0)))) (q60 : w0 1061 = (B 60, some (AZ g 300 (fun _ => 0)))) (q62 : w0 1063 = (B 62, some (AI g 2400 (fun _ => 0)))) (q68 : w0 1069 = (B 68, some (AI g 1000 (fun _ => 0)))) : pw_G g p l e { frames := 3, cells := 39, slots := 324574, locals := 76 } s m args below meth c 2 (pw_Q g below (fun r w' => r = none ∧ (∃ (B : Nat → Nat) (s' : Nat), s' ≤ 24 ∧ MmI g w' b B (fun _ => 0) (fun _ => 0) 0 0 (-1) 1000 0 0 [] [] 24 s') ∧ ∀ k, k < 1000 → w' k = wa k) args s { frames := 3, cells := 39, slots := 324574, locals := 76 }) 39 324574 470 [(0, .ref b), (1, .int (iZ z1))] [] w1 := by
  refine pw_aload_n (i := 0) C dX10_init_470 rfl rfl (Or.inr ⟨_, rfl⟩) ?_
  refine pw_bipush C dX10_init_471 (by decide) ?_
  refine pw_bipush C dX10_init_473 (by decide) ?_
  refine pw_bipush C dX10_init_475 (by decide) ?_
  refine pw_bipush C dX10_init_477 (by decide) ?_
  refine pw_bipush C dX10_init_479 (by decide) ?_
  refine pw_bipush C dX10_init_481 (by decide) ?_
  refine pw_bipush C dX10_init_483 (by decide) ?_
  refine pw_iconst C dX10_init_485 ?_
  obtain ⟨X, t, n, sn, Z, fW, c1, c2, c3, c4, c5, c6, c7, c8, c9, c10⟩ := hS
  have c31 := c3.1
  refine pw_callV (As := [.int (iZ 105), .int (iZ 109), .int (iZ 112), .int (iZ 108), .int (iZ 105), .int (iZ 101), .int (iZ 115), .int (iZ 0)]) (st := []) C (m_X10_said7 g l c1 c2 c4 c5 c8 c9 (by decide) (by decide) (by decide +kernel) (by decide) (by decide) (by decide +kernel) (by decide) (by decide) (by decide +kernel) (by decide) (by decide) (by decide +kernel) (by decide) (by decide) (by decide +kernel) (by decide) (by decide) (by decide +kernel) (by decide) (by decide) (by decide +kernel) (by omega) (by omega)) my_X10_said ml_X10_141 (pw_rec.of C c1 cl_X10.1) rfl ⟨Nat.le_of_ble_eq_true rfl, Nat.le_of_ble_eq_true rfl⟩ ⟨by (try dsimp only); omega, by (try dsimp only); omega⟩ rfl (Nat.le_of_ble_eq_true rfl) dX10_init_486 ?_
  intro rr wq hh
  rw [show Term.index (spN [105, 109, 112, 108, 105, 101, 115]) = yK (pm 6) from congrArg Term.index (by decide +kernel)] at hh
  obtain ⟨rfl, hS6⟩ := SD.step (by decide) c3 c6 c7 c10 hh
  clear hh c1 c2 c3 c4 c5 c6 c7 c8 c9 c10 c31
  refine pw_stk (st' := []) rfl ?_
  refine pw_aload_n (i := 0) C dX10_init_489 rfl rfl (Or.inr ⟨_, rfl⟩) ?_
  refine pw_bipush C dX10_init_490 (by decide) ?_
  refine pw_iconst C dX10_init_492 ?_
  refine pw_iconst C dX10_init_493 ?_
  refine pw_iconst C dX10_init_494 ?_
  refine pw_iconst C dX10_init_495 ?_
  refine pw_iconst C dX10_init_496 ?_
  refine pw_iconst C dX10_init_497 ?_
  refine pw_iconst C dX10_init_498 ?_
  obtain ⟨X, t, n, sn, Z, fW, c1, c2, c3, c4, c5, c6, c7, c8, c9, c10⟩ := hS6
  have c31 := c3.1
  refine pw_callV (As := [.int (iZ 43), .int (iZ 0), .int (iZ 0), .int (iZ 0), .int (iZ 0), .int (iZ 0), .int (iZ 0), .int (iZ 0)]) (st := []) C (m_X10_said1 g l c1 c2 c4 c5 c8 c9 (by decide) (by decide) (by decide +kernel) (by omega) (by omega)) my_X10_said ml_X10_141 (pw_rec.of C c1 cl_X10.1) rfl ⟨Nat.le_of_ble_eq_true rfl, Nat.le_of_ble_eq_true rfl⟩ ⟨by (try dsimp only); omega, by (try dsimp only); omega⟩ rfl (Nat.le_of_ble_eq_true rfl) dX10_init_499 ?_
  intro rr wq hh
  rw [show Term.index (spN [43]) = yK (pm 7) from congrArg Term.index (by decide +kernel)] at hh
  obtain ⟨rfl, hS7⟩ := SD.step (by decide) c3 c6 c7 c10 hh
  clear hh c1 c2 c3 c4 c5 c6 c7 c8 c9 c10 c31
  refine pw_stk (st' := []) rfl ?_
  refine pw_aload_n (i := 0) C dX10_init_502 rfl rfl (Or.inr ⟨_, rfl⟩) ?_
  refine pw_bipush C dX10_init_503 (by decide) ?_
  refine pw_iconst C dX10_init_505 ?_
  refine pw_iconst C dX10_init_506 ?_
  refine pw_iconst C dX10_init_507 ?_
  refine pw_iconst C dX10_init_508 ?_
  refine pw_iconst C dX10_init_509 ?_
  refine pw_iconst C dX10_init_510 ?_
  refine pw_iconst C dX10_init_511 ?_
  obtain ⟨X, t, n, sn, Z, fW, c1, c2, c3, c4, c5, c6, c7, c8, c9, c10⟩ := hS7
  have c31 := c3.1
  refine pw_callV (As := [.int (iZ 45), .int (iZ 0), .int (iZ 0), .int (iZ 0), .int (iZ 0), .int (iZ 0), .int (iZ 0), .int (iZ 0)]) (st := []) C (m_X10_said1 g l c1 c2 c4 c5 c8 c9 (by decide) (by decide) (by decide +kernel) (by omega) (by omega)) my_X10_said ml_X10_141 (pw_rec.of C c1 cl_X10.1) rfl ⟨Nat.le_of_ble_eq_true rfl, Nat.le_of_ble_eq_true rfl⟩ ⟨by (try dsimp only); omega, by (try dsimp only); omega⟩ rfl (Nat.le_of_ble_eq_true rfl) dX10_init_512 ?_
  intro rr wq hh
  rw [show Term.index (spN [45]) = yK (pm 8) from congrArg Term.index (by decide +kernel)] at hh
  obtain ⟨rfl, hS8⟩ := SD.step (by decide) c3 c6 c7 c10 hh
  clear hh c1 c2 c3 c4 c5 c6 c7 c8 c9 c10 c31
  refine pw_stk (st' := []) rfl ?_
  refine pw_aload_n (i := 0) C dX10_init_515 rfl rfl (Or.inr ⟨_, rfl⟩) ?_
  refine pw_bipush C dX10_init_516 (by decide) ?_
  refine pw_iconst C dX10_init_518 ?_
  refine pw_iconst C dX10_init_519 ?_
  refine pw_iconst C dX10_init_520 ?_
  refine pw_iconst C dX10_init_521 ?_
  refine pw_iconst C dX10_init_522 ?_
  refine pw_iconst C dX10_init_523 ?_
  refine pw_iconst C dX10_init_524 ?_
  obtain ⟨X, t, n, sn, Z, fW, c1, c2, c3, c4, c5, c6, c7, c8, c9, c10⟩ := hS8
  have c31 := c3.1
  refine pw_callV (As := [.int (iZ 60), .int (iZ 0), .int (iZ 0), .int (iZ 0), .int (iZ 0), .int (iZ 0), .int (iZ 0), .int (iZ 0)]) (st := []) C (m_X10_said1 g l c1 c2 c4 c5 c8 c9 (by decide) (by decide) (by decide +kernel) (by omega) (by omega)) my_X10_said ml_X10_141 (pw_rec.of C c1 cl_X10.1) rfl ⟨Nat.le_of_ble_eq_true rfl, Nat.le_of_ble_eq_true rfl⟩ ⟨by (try dsimp only); omega, by (try dsimp only); omega⟩ rfl (Nat.le_of_ble_eq_true rfl) dX10_init_525 ?_
  intro rr wq hh
  rw [show Term.index (spN [60]) = yK (pm 9) from congrArg Term.index (by decide +kernel)] at hh
  obtain ⟨rfl, hS9⟩ := SD.step (by decide) c3 c6 c7 c10 hh
  clear hh c1 c2 c3 c4 c5 c6 c7 c8 c9 c10 c31
  refine pw_stk (st' := []) rfl ?_
  refine pw_aload_n (i := 0) C dX10_init_528 rfl rfl (Or.inr ⟨_, rfl⟩) ?_
  refine pw_bipush C dX10_init_529 (by decide) ?_
  refine pw_bipush C dX10_init_531 (by decide) ?_
  refine pw_bipush C dX10_init_533 (by decide) ?_
  refine pw_bipush C dX10_init_535 (by decide) ?_
  refine pw_bipush C dX10_init_537 (by decide) ?_
  refine pw_iconst C dX10_init_539 ?_
  refine pw_iconst C dX10_init_540 ?_
  refine pw_iconst C dX10_init_541 ?_
  obtain ⟨X, t, n, sn, Z, fW, c1, c2, c3, c4, c5, c6, c7, c8, c9, c10⟩ := hS9
  have c31 := c3.1
  refine pw_callV (As := [.int (iZ 99), .int (iZ 111), .int (iZ 110), .int (iZ 115), .int (iZ 112), .int (iZ 0), .int (iZ 0), .int (iZ 0)]) (st := []) C (m_X10_said5 g l c1 c2 c4 c5 c8 c9 (by decide) (by decide) (by decide +kernel) (by decide) (by decide) (by decide +kernel) (by decide) (by decide) (by decide +kernel) (by decide) (by decide) (by decide +kernel) (by decide) (by decide) (by decide +kernel) (by omega) (by omega)) my_X10_said ml_X10_141 (pw_rec.of C c1 cl_X10.1) rfl ⟨Nat.le_of_ble_eq_true rfl, Nat.le_of_ble_eq_true rfl⟩ ⟨by (try dsimp only); omega, by (try dsimp only); omega⟩ rfl (Nat.le_of_ble_eq_true rfl) dX10_init_542 ?_
  intro rr wq hh
  rw [show Term.index (spN [99, 111, 110, 115, 112]) = yK (pm 10) from congrArg Term.index (by decide +kernel)] at hh
  obtain ⟨rfl, hS10⟩ := SD.step (by decide) c3 c6 c7 c10 hh
  clear hh c1 c2 c3 c4 c5 c6 c7 c8 c9 c10 c31
  refine pw_stk (st' := []) rfl ?_
  refine pw_aload_n (i := 0) C dX10_init_545 rfl rfl (Or.inr ⟨_, rfl⟩) ?_
  refine pw_bipush C dX10_init_546 (by decide) ?_
  refine pw_bipush C dX10_init_548 (by decide) ?_
  refine pw_bipush C dX10_init_550 (by decide) ?_
  refine pw_iconst C dX10_init_552 ?_
  refine pw_iconst C dX10_init_553 ?_
  refine pw_iconst C dX10_init_554 ?_
  refine pw_iconst C dX10_init_555 ?_
  refine pw_iconst C dX10_init_556 ?_
  obtain ⟨X, t, n, sn, Z, fW, c1, c2, c3, c4, c5, c6, c7, c8, c9, c10⟩ := hS10
  have c31 := c3.1
  refine pw_callV (As := [.int (iZ 99), .int (iZ 97), .int (iZ 114), .int (iZ 0), .int (iZ 0), .int (iZ 0), .int (iZ 0), .int (iZ 0)]) (st := []) C (m_X10_said3 g l c1 c2 c4 c5 c8 c9 (by decide) (by decide) (by decide +kernel) (by decide) (by decide) (by decide +kernel) (by decide) (by decide) (by decide +kernel) (by omega) (by omega)) my_X10_said ml_X10_141 (pw_rec.of C c1 cl_X10.1) rfl ⟨Nat.le_of_ble_eq_true rfl, Nat.le_of_ble_eq_true rfl⟩ ⟨by (try dsimp only); omega, by (try dsimp only); omega⟩ rfl (Nat.le_of_ble_eq_true rfl) dX10_init_557 ?_
  intro rr wq hh
  rw [show Term.index (spN [99, 97, 114]) = yK (pm 11) from congrArg Term.index (by decide +kernel)] at hh
  obtain ⟨rfl, hS11⟩ := SD.step (by decide) c3 c6 c7 c10 hh
  clear hh c1 c2 c3 c4 c5 c6 c7 c8 c9 c10 c31
  refine pw_stk (st' := []) rfl ?_
  exact init_s2 C hr hS11 hwa q11 q12 q14 q18 q23 q24 q25 q26 q28 q33 q34 q35 q36 q42 q43 q44 q46 q48 q50 q52 q53 q55 q56 q57 q58 q59 q60 q62 q68
set_option maxRecDepth 100000 in
set_option maxHeartbeats 4000000 in
/-- the names from 0 on -/
theorem init_s0 {g : pw_P} {p : Program} {l : Launch} {e : Env} {s : State} {m : MethodId} {args : Array Value} {below : List Frame} {meth : Method} {c : Code} {wa : pw_W} {b : Nat} {B : Nat → Nat} {w0 w1 : pw_W} {z1 : Int} (C : pw_C g p s m args meth c cX10_init 2 yX10_init.cls) (hr : meth.sig.returnType = none) (hS : SD g w0 w1 b B 0) (hwa : ∀ k, k < 1000 → w0 k = wa k) (q11 : w0 1012 = (B 11, some (AI g 20 (fun _ => 0)))) (q12 : w0 1013 = (B 12, some (AI g 3000 (fun _ => 0)))) (q14 : w0 1015 = (B 14, some (AI g 2000 (fun _ => 0)))) (q18 : w0 1019 = (B 18, some (AI g 4000 (fun _ => 0)))) (q23 : w0 1024 = (B 23, some (AI g 40 (fun _ => 0)))) (q24 : w0 1025 = (B 24, some (AI g 40 (fun _ => 0)))) (q25 : w0 1026 = (B 25, some (AI g 40 (fun _ => 0)))) (q26 : w0 1027 = (B 26, some (AI g 40 (fun _ => 0)))) (q28 : w0 1029 = (B 28, some (AI g 1100 (fun _ => 0)))) (q33 : w0 1034 = (B 33, some (AI g 40 (fun _ => 0)))) (q34 : w0 1035 = (B 34, some (AI g 40 (fun _ => 0)))) (q35 : w0 1036 = (B 35, some (AI g 240 (fun _ => 0)))) (q36 : w0 1037 = (B 36, some (AI g 40 (fun _ => 0)))) (q42 : w0 1043 = (B 42, some (AI g 1200 (fun _ => 0)))) (q43 : w0 1044 = (B 43, some (AI g 1200 (fun _ => 0)))) (q44 : w0 1045 = (B 44, some (AI g 1200 (fun _ => 0)))) (q46 : w0 1047 = (B 46, some (AI g 2400 (fun _ => 0)))) (q48 : w0 1049 = (B 48, some (AI g 400 (fun _ => 0)))) (q50 : w0 1051 = (B 50, some (AI g 130 (fun _ => 0)))) (q52 : w0 1053 = (B 52, some (AI g 1000 (fun _ => 0)))) (q53 : w0 1054 = (B 53, some (AI g 1000 (fun _ => 0)))) (q55 : w0 1056 = (B 55, some (AI g 300 (fun _ => 0)))) (q56 : w0 1057 = (B 56, some (AI g 300 (fun _ => 0)))) (q57 : w0 1058 = (B 57, some (AI g 300 (fun _ => 0)))) (q58 : w0 1059 = (B 58, some (AI g 300 (fun _ => 0)))) (q59 : w0 1060 = (B 59, some (AI g 300 (fun _ => 0)))) (q60 : w0 1061 = (B 60, some (AZ g 300 (fun _ => 0)))) (q62 : w0 1063 = (B 62, some (AI g 2400 (fun _ => 0)))) (q68 : w0 1069 = (B 68, some (AI g 1000 (fun _ => 0)))) : pw_G g p l e { frames := 3, cells := 39, slots := 324574, locals := 76 } s m args below meth c 2 (pw_Q g below (fun r w' => r = none ∧ (∃ (B : Nat → Nat) (s' : Nat), s' ≤ 24 ∧ MmI g w' b B (fun _ => 0) (fun _ => 0) 0 0 (-1) 1000 0 0 [] [] 24 s') ∧ ∀ k, k < 1000 → w' k = wa k) args s { frames := 3, cells := 39, slots := 324574, locals := 76 }) 39 324574 378 [(0, .ref b), (1, .int (iZ z1))] [] w1 := by
  refine pw_aload_n (i := 0) C dX10_init_378 rfl rfl (Or.inr ⟨_, rfl⟩) ?_
  refine pw_bipush C dX10_init_379 (by decide) ?_
  refine pw_bipush C dX10_init_381 (by decide) ?_
  refine pw_bipush C dX10_init_383 (by decide) ?_
  refine pw_iconst C dX10_init_385 ?_
  refine pw_iconst C dX10_init_386 ?_
  refine pw_iconst C dX10_init_387 ?_
  refine pw_iconst C dX10_init_388 ?_
  refine pw_iconst C dX10_init_389 ?_
  obtain ⟨X, t, n, sn, Z, fW, c1, c2, c3, c4, c5, c6, c7, c8, c9, c10⟩ := hS
  have c31 := c3.1
  refine pw_callV (As := [.int (iZ 110), .int (iZ 105), .int (iZ 108), .int (iZ 0), .int (iZ 0), .int (iZ 0), .int (iZ 0), .int (iZ 0)]) (st := []) C (m_X10_said3 g l c1 c2 c4 c5 c8 c9 (by decide) (by decide) (by decide +kernel) (by decide) (by decide) (by decide +kernel) (by decide) (by decide) (by decide +kernel) (by omega) (by omega)) my_X10_said ml_X10_141 (pw_rec.of C c1 cl_X10.1) rfl ⟨Nat.le_of_ble_eq_true rfl, Nat.le_of_ble_eq_true rfl⟩ ⟨by (try dsimp only); omega, by (try dsimp only); omega⟩ rfl (Nat.le_of_ble_eq_true rfl) dX10_init_390 ?_
  intro rr wq hh
  rw [show Term.index (spN [110, 105, 108]) = yK (pm 0) from congrArg Term.index (by decide +kernel)] at hh
  obtain ⟨rfl, hS0⟩ := SD.step (by decide) c3 c6 c7 c10 hh
  clear hh c1 c2 c3 c4 c5 c6 c7 c8 c9 c10 c31
  refine pw_stk (st' := []) rfl ?_
  refine pw_aload_n (i := 0) C dX10_init_393 rfl rfl (Or.inr ⟨_, rfl⟩) ?_
  refine pw_bipush C dX10_init_394 (by decide) ?_
  refine pw_iconst C dX10_init_396 ?_
  refine pw_iconst C dX10_init_397 ?_
  refine pw_iconst C dX10_init_398 ?_
  refine pw_iconst C dX10_init_399 ?_
  refine pw_iconst C dX10_init_400 ?_
  refine pw_iconst C dX10_init_401 ?_
  refine pw_iconst C dX10_init_402 ?_
  obtain ⟨X, t, n, sn, Z, fW, c1, c2, c3, c4, c5, c6, c7, c8, c9, c10⟩ := hS0
  have c31 := c3.1
  refine pw_callV (As := [.int (iZ 116), .int (iZ 0), .int (iZ 0), .int (iZ 0), .int (iZ 0), .int (iZ 0), .int (iZ 0), .int (iZ 0)]) (st := []) C (m_X10_said1 g l c1 c2 c4 c5 c8 c9 (by decide) (by decide) (by decide +kernel) (by omega) (by omega)) my_X10_said ml_X10_141 (pw_rec.of C c1 cl_X10.1) rfl ⟨Nat.le_of_ble_eq_true rfl, Nat.le_of_ble_eq_true rfl⟩ ⟨by (try dsimp only); omega, by (try dsimp only); omega⟩ rfl (Nat.le_of_ble_eq_true rfl) dX10_init_403 ?_
  intro rr wq hh
  rw [show Term.index (spN [116]) = yK (pm 1) from congrArg Term.index (by decide +kernel)] at hh
  obtain ⟨rfl, hS1⟩ := SD.step (by decide) c3 c6 c7 c10 hh
  clear hh c1 c2 c3 c4 c5 c6 c7 c8 c9 c10 c31
  refine pw_stk (st' := []) rfl ?_
  refine pw_aload_n (i := 0) C dX10_init_406 rfl rfl (Or.inr ⟨_, rfl⟩) ?_
  refine pw_bipush C dX10_init_407 (by decide) ?_
  refine pw_bipush C dX10_init_409 (by decide) ?_
  refine pw_bipush C dX10_init_411 (by decide) ?_
  refine pw_bipush C dX10_init_413 (by decide) ?_
  refine pw_bipush C dX10_init_415 (by decide) ?_
  refine pw_iconst C dX10_init_417 ?_
  refine pw_iconst C dX10_init_418 ?_
  refine pw_iconst C dX10_init_419 ?_
  obtain ⟨X, t, n, sn, Z, fW, c1, c2, c3, c4, c5, c6, c7, c8, c9, c10⟩ := hS1
  have c31 := c3.1
  refine pw_callV (As := [.int (iZ 113), .int (iZ 117), .int (iZ 111), .int (iZ 116), .int (iZ 101), .int (iZ 0), .int (iZ 0), .int (iZ 0)]) (st := []) C (m_X10_said5 g l c1 c2 c4 c5 c8 c9 (by decide) (by decide) (by decide +kernel) (by decide) (by decide) (by decide +kernel) (by decide) (by decide) (by decide +kernel) (by decide) (by decide) (by decide +kernel) (by decide) (by decide) (by decide +kernel) (by omega) (by omega)) my_X10_said ml_X10_141 (pw_rec.of C c1 cl_X10.1) rfl ⟨Nat.le_of_ble_eq_true rfl, Nat.le_of_ble_eq_true rfl⟩ ⟨by (try dsimp only); omega, by (try dsimp only); omega⟩ rfl (Nat.le_of_ble_eq_true rfl) dX10_init_420 ?_
  intro rr wq hh
  rw [show Term.index (spN [113, 117, 111, 116, 101]) = yK (pm 2) from congrArg Term.index (by decide +kernel)] at hh
  obtain ⟨rfl, hS2⟩ := SD.step (by decide) c3 c6 c7 c10 hh
  clear hh c1 c2 c3 c4 c5 c6 c7 c8 c9 c10 c31
  refine pw_stk (st' := []) rfl ?_
  refine pw_aload_n (i := 0) C dX10_init_423 rfl rfl (Or.inr ⟨_, rfl⟩) ?_
  refine pw_bipush C dX10_init_424 (by decide) ?_
  refine pw_bipush C dX10_init_426 (by decide) ?_
  refine pw_iconst C dX10_init_428 ?_
  refine pw_iconst C dX10_init_429 ?_
  refine pw_iconst C dX10_init_430 ?_
  refine pw_iconst C dX10_init_431 ?_
  refine pw_iconst C dX10_init_432 ?_
  refine pw_iconst C dX10_init_433 ?_
  obtain ⟨X, t, n, sn, Z, fW, c1, c2, c3, c4, c5, c6, c7, c8, c9, c10⟩ := hS2
  have c31 := c3.1
  refine pw_callV (As := [.int (iZ 105), .int (iZ 102), .int (iZ 0), .int (iZ 0), .int (iZ 0), .int (iZ 0), .int (iZ 0), .int (iZ 0)]) (st := []) C (m_X10_said2 g l c1 c2 c4 c5 c8 c9 (by decide) (by decide) (by decide +kernel) (by decide) (by decide) (by decide +kernel) (by omega) (by omega)) my_X10_said ml_X10_141 (pw_rec.of C c1 cl_X10.1) rfl ⟨Nat.le_of_ble_eq_true rfl, Nat.le_of_ble_eq_true rfl⟩ ⟨by (try dsimp only); omega, by (try dsimp only); omega⟩ rfl (Nat.le_of_ble_eq_true rfl) dX10_init_434 ?_
  intro rr wq hh
  rw [show Term.index (spN [105, 102]) = yK (pm 3) from congrArg Term.index (by decide +kernel)] at hh
  obtain ⟨rfl, hS3⟩ := SD.step (by decide) c3 c6 c7 c10 hh
  clear hh c1 c2 c3 c4 c5 c6 c7 c8 c9 c10 c31
  refine pw_stk (st' := []) rfl ?_
  refine pw_aload_n (i := 0) C dX10_init_437 rfl rfl (Or.inr ⟨_, rfl⟩) ?_
  refine pw_bipush C dX10_init_438 (by decide) ?_
  refine pw_bipush C dX10_init_440 (by decide) ?_
  refine pw_bipush C dX10_init_442 (by decide) ?_
  refine pw_bipush C dX10_init_444 (by decide) ?_
  refine pw_bipush C dX10_init_446 (by decide) ?_
  refine pw_iconst C dX10_init_448 ?_
  refine pw_iconst C dX10_init_449 ?_
  refine pw_iconst C dX10_init_450 ?_
  obtain ⟨X, t, n, sn, Z, fW, c1, c2, c3, c4, c5, c6, c7, c8, c9, c10⟩ := hS3
  have c31 := c3.1
  refine pw_callV (As := [.int (iZ 101), .int (iZ 113), .int (iZ 117), .int (iZ 97), .int (iZ 108), .int (iZ 0), .int (iZ 0), .int (iZ 0)]) (st := []) C (m_X10_said5 g l c1 c2 c4 c5 c8 c9 (by decide) (by decide) (by decide +kernel) (by decide) (by decide) (by decide +kernel) (by decide) (by decide) (by decide +kernel) (by decide) (by decide) (by decide +kernel) (by decide) (by decide) (by decide +kernel) (by omega) (by omega)) my_X10_said ml_X10_141 (pw_rec.of C c1 cl_X10.1) rfl ⟨Nat.le_of_ble_eq_true rfl, Nat.le_of_ble_eq_true rfl⟩ ⟨by (try dsimp only); omega, by (try dsimp only); omega⟩ rfl (Nat.le_of_ble_eq_true rfl) dX10_init_451 ?_
  intro rr wq hh
  rw [show Term.index (spN [101, 113, 117, 97, 108]) = yK (pm 4) from congrArg Term.index (by decide +kernel)] at hh
  obtain ⟨rfl, hS4⟩ := SD.step (by decide) c3 c6 c7 c10 hh
  clear hh c1 c2 c3 c4 c5 c6 c7 c8 c9 c10 c31
  refine pw_stk (st' := []) rfl ?_
  refine pw_aload_n (i := 0) C dX10_init_454 rfl rfl (Or.inr ⟨_, rfl⟩) ?_
  refine pw_bipush C dX10_init_455 (by decide) ?_
  refine pw_bipush C dX10_init_457 (by decide) ?_
  refine pw_bipush C dX10_init_459 (by decide) ?_
  refine pw_bipush C dX10_init_461 (by decide) ?_
  refine pw_iconst C dX10_init_463 ?_
  refine pw_iconst C dX10_init_464 ?_
  refine pw_iconst C dX10_init_465 ?_
  refine pw_iconst C dX10_init_466 ?_
  obtain ⟨X, t, n, sn, Z, fW, c1, c2, c3, c4, c5, c6, c7, c8, c9, c10⟩ := hS4
  have c31 := c3.1
  refine pw_callV (As := [.int (iZ 99), .int (iZ 111), .int (iZ 110), .int (iZ 115), .int (iZ 0), .int (iZ 0), .int (iZ 0), .int (iZ 0)]) (st := []) C (m_X10_said4 g l c1 c2 c4 c5 c8 c9 (by decide) (by decide) (by decide +kernel) (by decide) (by decide) (by decide +kernel) (by decide) (by decide) (by decide +kernel) (by decide) (by decide) (by decide +kernel) (by omega) (by omega)) my_X10_said ml_X10_141 (pw_rec.of C c1 cl_X10.1) rfl ⟨Nat.le_of_ble_eq_true rfl, Nat.le_of_ble_eq_true rfl⟩ ⟨by (try dsimp only); omega, by (try dsimp only); omega⟩ rfl (Nat.le_of_ble_eq_true rfl) dX10_init_467 ?_
  intro rr wq hh
  rw [show Term.index (spN [99, 111, 110, 115]) = yK (pm 5) from congrArg Term.index (by decide +kernel)] at hh
  obtain ⟨rfl, hS5⟩ := SD.step (by decide) c3 c6 c7 c10 hh
  clear hh c1 c2 c3 c4 c5 c6 c7 c8 c9 c10 c31
  refine pw_stk (st' := []) rfl ?_
  exact init_s1 C hr hS5 hwa q11 q12 q14 q18 q23 q24 q25 q26 q28 q33 q34 q35 q36 q42 q43 q44 q46 q48 q50 q52 q53 q55 q56 q57 q58 q59 q60 q62 q68
set_option maxRecDepth 100000 in
set_option maxHeartbeats 4000000 in
/-- the heads are made empty -/
theorem init_heads {g : pw_P} {p : Program} {l : Launch} {e : Env} {s : State} {m : MethodId} {args : Array Value} {below : List Frame} {meth : Method} {c : Code} {wa : pw_W} {b : Nat} {B : Nat → Nat} {w0 : pw_W} (C : pw_C g p s m args meth c cX10_init 2 yX10_init.cls) (hr : meth.sig.returnType = none) (h0 : w0 1000 = (b, some (mdE B x00))) (q0 : w0 1001 = (B 0, some (AI g 40000 (fun _ => 0)))) (q1 : w0 1002 = (B 1, some (AI g 40000 (fun _ => 0)))) (q2 : w0 1003 = (B 2, some (AI g 40000 (fun _ => 0)))) (q3 : w0 1004 = (B 3, some (AI g 40000 (fun _ => 0)))) (q4 : w0 1005 = (B 4, some (AI g 40000 (fun _ => 0)))) (q5 : w0 1006 = (B 5, some (AJ g 40000 (fun _ => 0)))) (q8 : w0 1009 = (B 8, some (AI g 48000 (fun _ => 0)))) (q9 : w0 1010 = (B 9, some (AI g 4000 (fun _ => 0)))) (q6 : w0 1007 = (B 6, some (AI g 8192 (fun _ => 0)))) (q16 : w0 1017 = (B 16, some (AI g 12 (fun _ => 0)))) (hwa : ∀ k, k < 1000 → w0 k = wa k) (q11 : w0 1012 = (B 11, some (AI g 20 (fun _ => 0)))) (q12 : w0 1013 = (B 12, some (AI g 3000 (fun _ => 0)))) (q14 : w0 1015 = (B 14, some (AI g 2000 (fun _ => 0)))) (q18 : w0 1019 = (B 18, some (AI g 4000 (fun _ => 0)))) (q23 : w0 1024 = (B 23, some (AI g 40 (fun _ => 0)))) (q24 : w0 1025 = (B 24, some (AI g 40 (fun _ => 0)))) (q25 : w0 1026 = (B 25, some (AI g 40 (fun _ => 0)))) (q26 : w0 1027 = (B 26, some (AI g 40 (fun _ => 0)))) (q28 : w0 1029 = (B 28, some (AI g 1100 (fun _ => 0)))) (q33 : w0 1034 = (B 33, some (AI g 40 (fun _ => 0)))) (q34 : w0 1035 = (B 34, some (AI g 40 (fun _ => 0)))) (q35 : w0 1036 = (B 35, some (AI g 240 (fun _ => 0)))) (q36 : w0 1037 = (B 36, some (AI g 40 (fun _ => 0)))) (q42 : w0 1043 = (B 42, some (AI g 1200 (fun _ => 0)))) (q43 : w0 1044 = (B 43, some (AI g 1200 (fun _ => 0)))) (q44 : w0 1045 = (B 44, some (AI g 1200 (fun _ => 0)))) (q46 : w0 1047 = (B 46, some (AI g 2400 (fun _ => 0)))) (q48 : w0 1049 = (B 48, some (AI g 400 (fun _ => 0)))) (q50 : w0 1051 = (B 50, some (AI g 130 (fun _ => 0)))) (q52 : w0 1053 = (B 52, some (AI g 1000 (fun _ => 0)))) (q53 : w0 1054 = (B 53, some (AI g 1000 (fun _ => 0)))) (q55 : w0 1056 = (B 55, some (AI g 300 (fun _ => 0)))) (q56 : w0 1057 = (B 56, some (AI g 300 (fun _ => 0)))) (q57 : w0 1058 = (B 57, some (AI g 300 (fun _ => 0)))) (q58 : w0 1059 = (B 58, some (AI g 300 (fun _ => 0)))) (q59 : w0 1060 = (B 59, some (AI g 300 (fun _ => 0)))) (q60 : w0 1061 = (B 60, some (AZ g 300 (fun _ => 0)))) (q62 : w0 1063 = (B 62, some (AI g 2400 (fun _ => 0)))) (q68 : w0 1069 = (B 68, some (AI g 1000 (fun _ => 0)))) : pw_G g p l e { frames := 3, cells := 39, slots := 324574, locals := 76 } s m args below meth c 2 (pw_Q g below (fun r w' => r = none ∧ (∃ (B : Nat → Nat) (s' : Nat), s' ≤ 24 ∧ MmI g w' b B (fun _ => 0) (fun _ => 0) 0 0 (-1) 1000 0 0 [] [] 24 s') ∧ ∀ k, k < 1000 → w' k = wa k) args s { frames := 3, cells := 39, slots := 324574, locals := 76 }) 39 324574 358 [(0, .ref b), (1, .int (iZ 0))] [] w0 := by
  have loop : ∀ (kk k : Nat) (w1 : pw_W) (fD : Int → Int), k + kk = 8192 → w1 1007 = (B 6, some (AI g 8192 fD)) → (∀ j, inI (fD j)) → (∀ j : Int, 0 ≤ j → j < ((k : Nat) : Int) → fD j = -1) → (∀ q, q ≠ 1007 → w1 q = w0 q) → pw_G g p l e { frames := 3, cells := 39, slots := 324574, locals := 76 } s m args below meth c 2 (pw_Q g below (fun r w' => r = none ∧ (∃ (B : Nat → Nat) (s' : Nat), s' ≤ 24 ∧ MmI g w' b B (fun _ => 0) (fun _ => 0) 0 0 (-1) 1000 0 0 [] [] 24 s') ∧ ∀ k, k < 1000 → w' k = wa k) args s { frames := 3, cells := 39, slots := 324574, locals := 76 }) 39 324574 358 [(0, .ref b), (1, .int (iZ ((k : Nat) : Int)))] [] w1 := by
    intro kk
    induction kk with
    | zero =>
      intro k w1 fD hkk y6 u6 hD1 hf1
      refine pw_iload_n (i := 1) C dX10_init_358 rfl rfl ?_
      refine pw_sipush C dX10_init_359 (by decide) ?_
      refine pw_icmp_ge (tgt := 378) C (by omega) (by omega) dX10_init_362 (by decide) (fun h_101 => ?_) (fun h_101 => ?_)
      · have hR0 : RS g w1 B (fun _ => oNil) 0 0 (fun _ => 0) := ⟨fun _ => 0, fun _ => 0, fun _ => 0, fun _ => 0, fun _ => 0, fD, fun _ => 0, fun _ => 0, (hf1 1001 (by decide)).trans q0, (hf1 1002 (by decide)).trans q1, (hf1 1003 (by decide)).trans q2, (hf1 1004 (by decide)).trans q3, (hf1 1005 (by decide)).trans q4, (hf1 1006 (by decide)).trans q5, y6, (hf1 1009 (by decide)).trans q8, (hf1 1010 (by decide)).trans q9, ⟨(fun _ => (by decide : inI 0)), (fun _ => (by decide : inI 0)), (fun _ => (by decide : inI 0)), (fun _ => (by decide : inI 0)), (fun _ => (by decide : inI 0)), (fun _ => (by decide : inL 0)), u6, (fun _ => (by decide : inI 0)), (fun _ => (by decide : inI 0))⟩, ⟨by decide, by decide⟩, rfl, by decide, ⟨fun i h0 h1 => absurd h1 (by omega), fun i j h0 h1 => absurd h1 (by omega), fun c h0 h1 => (hD1 c h0 (by omega)).trans rfl, fun i h0 h1 => absurd h1 (by omega)⟩⟩
        have hS : SD g w0 w1 b B 0 := ⟨x00, fun _ => oNil, 0, 0, fun _ => 0, fun _ => 0, (hf1 1000 (by decide)).trans h0, hR0, ⟨rfl, fun j hj => absurd hj (by omega)⟩, rfl, rfl, Nat.le_refl _, fun _ _ => rfl, (hf1 1017 (by decide)).trans q16, (fun _ => (by decide : inI 0)), fun q hq => hf1 q (by omega)⟩
        exact init_s0 C hr hS hwa q11 q12 q14 q18 q23 q24 q25 q26 q28 q33 q34 q35 q36 q42 q43 q44 q46 q48 q50 q52 q53 q55 q56 q57 q58 q59 q60 q62 q68
      · exfalso; omega
    | succ kk ih =>
      intro k w1 fD hkk y6 u6 hD1 hf1
      refine pw_iload_n (i := 1) C dX10_init_358 rfl rfl ?_
      refine pw_sipush C dX10_init_359 (by decide) ?_
      refine pw_icmp_ge (tgt := 378) C (by omega) (by omega) dX10_init_362 (by decide) (fun h_201 => ?_) (fun h_201 => ?_)
      · exfalso; omega
      · refine pw_aload_n (i := 0) C dX10_init_365 rfl rfl (Or.inr ⟨_, rfl⟩) ?_
        have c_202 := (hf1 1000 (by omega)).trans h0
        refine pw_get (j := 6) C cl_X10 fl_X10_30 (by decide) rfl c_202 rfl dX10_init_366 ?_
        refine pw_stk (st' := [.ref (B 6)]) rfl ?_
        refine pw_iload_n (i := 1) C dX10_init_369 rfl rfl ?_
        refine pw_iconst C dX10_init_370 ?_
        refine pw_iast C y6 ⟨by omega, by omega, by omega⟩ dX10_init_371 (fun w_205 k_203 o_204 => ?_)
        refine pw_iinc (lv' := [(0, .ref b), (1, .int (iZ (((k : Nat) : Int) + 1)))]) C dX10_init_372 rfl (by decide) rfl ?_
        refine pw_goto (tgt := 358) C dX10_init_375 (by decide) ?_
        rw [show ((k : Nat) : Int) + 1 = ((k + 1 : Nat) : Int) by omega]
        exact ih (k + 1) w_205 _ (by omega) k_203 (upz_inI u6 (by decide)) (fun j j0 j1 => by by_cases c : j = ((k : Nat) : Int); rw [c, upz_self]; rw [upz_ne _ _ c]; exact hD1 j j0 (by omega)) (fun q hq => (o_204 q (by omega)).trans (hf1 q (by omega)))
  exact loop 8192 0 w0 (fun _ => 0) (by omega) q6 (fun _ => (by decide : inI 0)) (fun j j0 j1 => absurd j1 (by omega)) (fun _ _ => rfl)
