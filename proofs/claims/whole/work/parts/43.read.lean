theorem ixF_rng (x : Int) : ∀ (f : Nat) (k : Int), -1 ≤ k → -1 ≤ ixF 1 x f k ∧ ixF 1 x f k ≤ k + f
  | 0, k, hk => by simp only [ixF]; omega
  | f + 1, k, hk => by
    rw [ixF]
    split
    · omega
    · have := ixF_rng x f (k + 1) (by omega); omega
theorem ixF_lt (x : Int) : ∀ (f : Nat) (k : Int), 0 ≤ k → ixF 1 x f k < k + f ∨ ixF 1 x f k = -1
  | 0, k, _ => Or.inr rfl
  | f + 1, k, hk => by
    rw [ixF]
    split
    · left; omega
    · have := ixF_lt x f (k + 1) (by omega); omega
theorem ixZ_rng (x : Int) : -1 ≤ ixZ 1 x ∧ ixZ 1 x < 47 := by
  have h := ixF_rng x 47 0 (by omega)
  have h2 := ixF_lt x 47 0 (by omega)
  have e : ixZ 1 x = ixF 1 x 47 0 := rfl
  rw [e]
  omega
theorem rWe_rng {f : Int → Int} : ∀ (m : Nat) (i : Int), i ≤ rWe f m i ∧ rWe f m i ≤ i + m
  | 0, i => by simp only [rWe]; omega
  | m + 1, i => by
    rw [rWe]
    split
    · have := rWe_rng (f := f) m (i + 1); omega
    · omega
theorem rWe_at {f : Int → Int} : ∀ (m : Nat) (i k : Int), i ≤ k → k < rWe f m i → atL (f k) = true
  | 0, i, k, h1, h2 => by simp only [rWe] at h2; omega
  | m + 1, i, k, h1, h2 => by
    rw [rWe] at h2
    split at h2
    · rename_i h
      by_cases e : k = i
      · rw [e]; exact h
      · exact rWe_at m (i + 1) k (by omega) h2
    · omega
theorem rBl_rng {f : Int → Int} : ∀ (m : Nat) (c : Bool) (i : Int), i ≤ rBl f m c i ∧ rBl f m c i ≤ i + m
  | 0, c, i => by simp only [rBl]; omega
  | m + 1, c, i => by
    have h1 := rBl_rng (f := f) m false (i + 1)
    have h2 := rBl_rng (f := f) m true (i + 1)
    have h3 := rBl_rng (f := f) m c (i + 1)
    rw [rBl]
    split
    · omega
    · split
      · omega
      · split <;> omega
theorem rEnd_rng {f : Int → Int} {len i : Int} (h : 0 ≤ i ∧ i < len) : i < rEnd f len i ∧ rEnd f len i ≤ len := by
  unfold rEnd
  split
  · rename_i ha
    have e : (len - i).toNat = (len - i - 1).toNat + 1 := by omega
    rw [e, rWe, if_pos ha]
    have := rWe_rng (f := f) (len - i - 1).toNat (i + 1)
    omega
  · omega
/-- the reader in the class -/
abbrev rdE (A : Nat → Nat) (ln fa pl ic op wd : Int) (dg : Bool) (am sp : Int) : va_E := OB 5 [.ref (A 2), .ref (A 9), .int (iZ ln), .int (iZ fa), .int (iZ pl), .ref (A 10), .int (iZ ic), .ref (A 11), .ref (A 12), .int (iZ op), .int (iZ wd), .int (iZ (b2i dg)), .long (lZ am), .long (lZ sp)]
set_option maxRecDepth 100000 in
set_option maxHeartbeats 4000000 in
/-- isAtomLetter -/
theorem m_X5_isAtomLetter (g : pw_P) (l : Launch) {w : pw_W} {c0 : Int} (hc : 0 ≤ c0 ∧ c0 < 256) : pw_M g l yX5_isAtomLetter cX5_isAtomLetter 1 (some .boolean) { frames := 4, cells := 0, slots := 0, locals := 91 } [.int (iZ c0)] w (fun r w' => w = w' ∧ r = some (.int (iZ (b2i (atL c0))))) := by
  refine pw_M.of (by decide) (Nat.le_of_ble_eq_true rfl) rfl ?_
  intro p e s m args below meth c C hr hn
  refine pw_ldcS C C.str76 dX5_isAtomLetter_0 ?_
  refine pw_iload_n (i := 0) C dX5_isAtomLetter_2 rfl rfl ?_
  refine pw_callV (As := [.int (iZ c0)]) (st := []) C (m_J0_indexOf_0f7a4 g l (i := 1) (by decide) (x := c0) (by omega)) my_J0_indexOf_0f7a4 ml_X5_78 (pw_rec.str C (by decide)) rfl ⟨Nat.le_of_ble_eq_true rfl, Nat.le_of_ble_eq_true rfl⟩ ⟨Nat.le_of_ble_eq_true rfl, Nat.le_of_ble_eq_true rfl⟩ rfl (Nat.le_of_ble_eq_true rfl) dX5_isAtomLetter_3 ?_
  rintro _ _ ⟨rfl, rfl⟩
  have g_1 := ixZ_rng c0
  refine pw_stk (st' := [.int (iZ (ixZ 1 c0))]) rfl ?_
  refine pw_if_le (tgt := 13) C (by omega) dX5_isAtomLetter_6 (by decide) (fun h_2 => ?_) (fun h_2 => ?_)
  · refine pw_iconst C dX5_isAtomLetter_13 ?_
    exact pw_zret C hr (by decide +kernel) dX5_isAtomLetter_14 ⟨rfl, by rw [show atL c0 = false from decide_eq_false (by omega)]; rfl⟩
  · refine pw_iconst C dX5_isAtomLetter_9 ?_
    refine pw_goto (tgt := 14) C dX5_isAtomLetter_10 (by decide) ?_
    exact pw_zret C hr (by decide +kernel) dX5_isAtomLetter_14 ⟨rfl, by rw [show atL c0 = true from decide_eq_true (by omega)]; rfl⟩

set_option maxRecDepth 100000 in
set_option maxHeartbeats 4000000 in
/-- behindBlanks -/
theorem m_X5_behindBlanks (g : pw_P) (l : Launch) {w : pw_W} {A : Nat → Nat} {ln fa pl ic op wd am sp : Int} {dg : Bool} {f : Int → Int} (h8 : w 8 = (A 8, some (rdE A ln fa pl ic op wd dg am sp))) (h9 : w 9 = (A 9, some (AC g 3000 f))) (hfc : ∀ j, 0 ≤ f j ∧ f j < 256) {i len : Int} (hi : 0 ≤ i ∧ i ≤ len) (hlen : len ≤ 3000) : pw_M g l yX5_behindBlanks cX5_behindBlanks 6 (some .int) { frames := 0, cells := 0, slots := 0, locals := 0 } [.ref (A 8), .int (iZ i), .int (iZ len)] w (fun r w' => w = w' ∧ r = some (.int (iZ (rBl f (len - i).toNat false i)))) := by
  refine pw_M.of (by decide) (Nat.le_of_ble_eq_true rfl) rfl ?_
  intro p e s m args below meth c C hr hn
  have loop : ∀ (kk : Nat) (k : Int) (c1 : Bool), k + kk = len ∧ i ≤ k → rBl f kk c1 k = rBl f (len - i).toNat false i → pw_G g p l e { frames := 0, cells := 0, slots := 0, locals := 0 } s m args below meth c 6 (pw_Q g below (fun r w' => w = w' ∧ r = some (.int (iZ (rBl f (len - i).toNat false i)))) args s { frames := 0, cells := 0, slots := 0, locals := 0 }) 0 0 5 [(0, .ref (A 8)), (1, .int (iZ i)), (2, .int (iZ len)), (3, .int (iZ (b2i c1))), (4, .int (iZ k))] [] w := by
    intro kk
    induction kk with
    | zero =>
      intro k c1 hk hq
      refine pw_iload C dX5_behindBlanks_5 rfl ?_
      refine pw_iload_n (i := 2) C dX5_behindBlanks_7 rfl rfl ?_
      refine pw_icmp_ge (tgt := 64) C (by omega) (by omega) dX5_behindBlanks_8 (by decide) (fun h_11 => ?_) (fun h_11 => ?_)
      · refine pw_iload_n (i := 2) C dX5_behindBlanks_64 rfl rfl ?_
        exact pw_iret C hr dX5_behindBlanks_65 ⟨rfl, by rw [← hq, show len = k by omega]; rfl⟩
      · exfalso; omega
    | succ kk ih =>
      intro k c1 hk hq
      refine pw_iload C dX5_behindBlanks_5 rfl ?_
      refine pw_iload_n (i := 2) C dX5_behindBlanks_7 rfl rfl ?_
      refine pw_icmp_ge (tgt := 64) C (by omega) (by omega) dX5_behindBlanks_8 (by decide) (fun h_21 => ?_) (fun h_21 => ?_)
      · exfalso; omega
      · refine pw_aload_n (i := 0) C dX5_behindBlanks_11 rfl rfl (Or.inr ⟨_, rfl⟩) ?_
        refine pw_get (j := 1) C cl_X5 fl_X5_9 (by decide) rfl h8 rfl dX5_behindBlanks_12 ?_
        refine pw_iload C dX5_behindBlanks_15 rfl ?_
        have g_22 := hfc k
        refine pw_cald C h9 ⟨by omega, by omega, by omega⟩ dX5_behindBlanks_17 ?_
        refine pw_istore (lv' := [(0, .ref (A 8)), (1, .int (iZ i)), (2, .int (iZ len)), (3, .int (iZ (b2i c1))), (4, .int (iZ k)), (5, .int (iZ (f k)))]) C dX5_behindBlanks_18 (by decide) rfl ?_
        refine pw_iload C dX5_behindBlanks_20 rfl ?_
        refine pw_bipush C dX5_behindBlanks_22 (by decide) ?_
        refine pw_icmp_ne (tgt := 32) C (by omega) (by omega) dX5_behindBlanks_24 (by decide) (fun h_23 => ?_) (fun h_23 => ?_)
        · refine pw_iload C dX5_behindBlanks_32 rfl ?_
          refine pw_bipush C dX5_behindBlanks_34 (by decide) ?_
          refine pw_icmp_ne (tgt := 44) C (by omega) (by omega) dX5_behindBlanks_36 (by decide) (fun h_24 => ?_) (fun h_24 => ?_)
          · refine pw_iload C dX5_behindBlanks_44 rfl ?_
            refine pw_bipush C dX5_behindBlanks_46 (by decide) ?_
            refine pw_icmp_eq (tgt := 58) C (by omega) (by omega) dX5_behindBlanks_48 (by decide) (fun h_25 => ?_) (fun h_25 => ?_)
            · refine pw_iinc (lv' := [(0, .ref (A 8)), (1, .int (iZ i)), (2, .int (iZ len)), (3, .int (iZ (b2i c1))), (4, .int (iZ (k + 1))), (5, .int (iZ (f k)))]) C dX5_behindBlanks_58 rfl (by decide) rfl ?_
              refine pw_goto (tgt := 5) C dX5_behindBlanks_61 (by decide) ?_
              refine pw_sub [0, 1, 2, 3, 4] rfl ?_
              exact ih (k + 1) c1 (by omega) (by rw [← hq, rBl, if_neg (by omega), if_neg (by omega), if_neg (fun q => by omega)])
            · refine pw_iload_n (i := 3) C dX5_behindBlanks_51 rfl rfl ?_
              refine pw_if_neB (tgt := 58) C dX5_behindBlanks_52 (by decide) (fun h_26 => ?_) (fun h_26 => ?_)
              · refine pw_iinc (lv' := [(0, .ref (A 8)), (1, .int (iZ i)), (2, .int (iZ len)), (3, .int (iZ (b2i c1))), (4, .int (iZ (k + 1))), (5, .int (iZ (f k)))]) C dX5_behindBlanks_58 rfl (by decide) rfl ?_
                refine pw_goto (tgt := 5) C dX5_behindBlanks_61 (by decide) ?_
                refine pw_sub [0, 1, 2, 3, 4] rfl ?_
                exact ih (k + 1) c1 (by omega) (by rw [← hq, rBl, if_neg (by omega), if_neg (by omega), if_neg (fun q => by rw [h_26] at q; cases q.2)])
              · refine pw_iload C dX5_behindBlanks_55 rfl ?_
                exact pw_iret C hr dX5_behindBlanks_57 ⟨rfl, by rw [← hq, rBl, if_neg (by omega), if_neg (by omega), if_pos ⟨by omega, h_26⟩]⟩
          · refine pw_iconst C dX5_behindBlanks_39 ?_
            refine pw_istore_n (i := 3) (lv' := [(0, .ref (A 8)), (1, .int (iZ i)), (2, .int (iZ len)), (3, .int (iZ 1)), (4, .int (iZ k)), (5, .int (iZ (f k)))]) C dX5_behindBlanks_40 rfl (by decide) rfl ?_
            refine pw_goto (tgt := 58) C dX5_behindBlanks_41 (by decide) ?_
            refine pw_iinc (lv' := [(0, .ref (A 8)), (1, .int (iZ i)), (2, .int (iZ len)), (3, .int (iZ 1)), (4, .int (iZ (k + 1))), (5, .int (iZ (f k)))]) C dX5_behindBlanks_58 rfl (by decide) rfl ?_
            refine pw_goto (tgt := 5) C dX5_behindBlanks_61 (by decide) ?_
            refine pw_sub [0, 1, 2, 3, 4] rfl ?_
            exact ih (k + 1) true (by omega) (by rw [← hq, rBl, if_neg (by omega), if_pos (by omega)])
        · refine pw_iconst C dX5_behindBlanks_27 ?_
          refine pw_istore_n (i := 3) (lv' := [(0, .ref (A 8)), (1, .int (iZ i)), (2, .int (iZ len)), (3, .int (iZ 0)), (4, .int (iZ k)), (5, .int (iZ (f k)))]) C dX5_behindBlanks_28 rfl (by decide) rfl ?_
          refine pw_goto (tgt := 58) C dX5_behindBlanks_29 (by decide) ?_
          refine pw_iinc (lv' := [(0, .ref (A 8)), (1, .int (iZ i)), (2, .int (iZ len)), (3, .int (iZ 0)), (4, .int (iZ (k + 1))), (5, .int (iZ (f k)))]) C dX5_behindBlanks_58 rfl (by decide) rfl ?_
          refine pw_goto (tgt := 5) C dX5_behindBlanks_61 (by decide) ?_
          refine pw_sub [0, 1, 2, 3, 4] rfl ?_
          exact ih (k + 1) false (by omega) (by rw [← hq, rBl, if_pos (by omega)])
  refine pw_iconst C dX5_behindBlanks_0 ?_
  refine pw_istore_n (i := 3) (lv' := [(0, .ref (A 8)), (1, .int (iZ i)), (2, .int (iZ len)), (3, .int (iZ 0))]) C dX5_behindBlanks_1 rfl (by decide) rfl ?_
  refine pw_iload_n (i := 1) C dX5_behindBlanks_2 rfl rfl ?_
  refine pw_istore (lv' := [(0, .ref (A 8)), (1, .int (iZ i)), (2, .int (iZ len)), (3, .int (iZ 0)), (4, .int (iZ i))]) C dX5_behindBlanks_3 (by decide) rfl ?_
  exact loop (len - i).toNat i false (by omega) rfl

set_option maxRecDepth 100000 in
set_option maxHeartbeats 4000000 in
/-- behindWord -/
theorem m_X5_behindWord (g : pw_P) (l : Launch) {w : pw_W} {A : Nat → Nat} {ln fa pl ic op wd am sp : Int} {dg : Bool} {f : Int → Int} (h8 : w 8 = (A 8, some (rdE A ln fa pl ic op wd dg am sp))) (h9 : w 9 = (A 9, some (AC g 3000 f))) (hfc : ∀ j, 0 ≤ f j ∧ f j < 256) {i len : Int} (hi : 0 ≤ i ∧ i < len) (hlen : len ≤ 3000) : pw_M g l yX5_behindWord cX5_behindWord 4 (some .int) { frames := 5, cells := 0, slots := 0, locals := 111 } [.ref (A 8), .int (iZ i), .int (iZ len)] w (fun r w' => w = w' ∧ r = some (.int (iZ (rEnd f len i)))) := by
  refine pw_M.of (by decide) (Nat.le_of_ble_eq_true rfl) rfl ?_
  intro p e s m args below meth c C hr hn
  have hE : ∀ k : Int, ¬ k = i → rWe f (len - i).toNat i = k → rEnd f len i = k := by
    intro k hk e
    unfold rEnd
    by_cases ha : atL (f i) = true
    · rw [if_pos ha, e]
    · exfalso
      rw [show (len - i).toNat = (len - i - 1).toNat + 1 by omega, rWe, if_neg ha] at e
      omega
  have hE1 : rWe f (len - i).toNat i = i → rEnd f len i = i + 1 := by
    intro e
    unfold rEnd
    by_cases ha : atL (f i) = true
    · exfalso
      rw [show (len - i).toNat = (len - i - 1).toNat + 1 by omega, rWe, if_pos ha] at e
      have := rWe_rng (f := f) (len - i - 1).toNat (i + 1)
      omega
    · rw [if_neg ha]
  have loop : ∀ (kk : Nat) (k : Int), k + kk = len ∧ i ≤ k → rWe f kk k = rWe f (len - i).toNat i → pw_G g p l e { frames := 5, cells := 0, slots := 0, locals := 111 } s m args below meth c 4 (pw_Q g below (fun r w' => w = w' ∧ r = some (.int (iZ (rEnd f len i)))) args s { frames := 5, cells := 0, slots := 0, locals := 111 }) 0 0 2 [(0, .ref (A 8)), (1, .int (iZ i)), (2, .int (iZ len)), (3, .int (iZ k))] [] w := by
    intro kk
    induction kk with
    | zero =>
      intro k hk hq
      refine pw_iload_n (i := 3) C dX5_behindWord_2 rfl rfl ?_
      refine pw_iload_n (i := 2) C dX5_behindWord_3 rfl rfl ?_
      refine pw_icmp_ge (tgt := 25) C (by omega) (by omega) dX5_behindWord_4 (by decide) (fun h_11 => ?_) (fun h_11 => ?_)
      · refine pw_iload_n (i := 3) C dX5_behindWord_25 rfl rfl ?_
        refine pw_iload_n (i := 1) C dX5_behindWord_26 rfl rfl ?_
        refine pw_icmp_ne (tgt := 36) C (by omega) (by omega) dX5_behindWord_27 (by decide) (fun h_12 => ?_) (fun h_12 => ?_)
        · refine pw_iload_n (i := 3) C dX5_behindWord_36 rfl rfl ?_
          exact pw_iret C hr dX5_behindWord_37 ⟨rfl, by rw [hE k (by omega) (by rw [← hq, rWe])]⟩
        · refine pw_iload_n (i := 1) C dX5_behindWord_30 rfl rfl ?_
          refine pw_iconst C dX5_behindWord_31 ?_
          refine pw_iadd C dX5_behindWord_32 ?_
          refine pw_goto (tgt := 37) C dX5_behindWord_33 (by decide) ?_
          exact pw_iret C hr dX5_behindWord_37 ⟨rfl, by rw [hE1 (by rw [← hq, rWe]; omega)]⟩
      · exfalso; omega
    | succ kk ih =>
      intro k hk hq
      refine pw_iload_n (i := 3) C dX5_behindWord_2 rfl rfl ?_
      refine pw_iload_n (i := 2) C dX5_behindWord_3 rfl rfl ?_
      refine pw_icmp_ge (tgt := 25) C (by omega) (by omega) dX5_behindWord_4 (by decide) (fun h_21 => ?_) (fun h_21 => ?_)
      · exfalso; omega
      · refine pw_aload_n (i := 0) C dX5_behindWord_7 rfl rfl (Or.inr ⟨_, rfl⟩) ?_
        refine pw_get (j := 1) C cl_X5 fl_X5_9 (by decide) rfl h8 rfl dX5_behindWord_8 ?_
        refine pw_iload_n (i := 3) C dX5_behindWord_11 rfl rfl ?_
        have g_22 := hfc k
        refine pw_cald C h9 ⟨by omega, by omega, by omega⟩ dX5_behindWord_12 ?_
        refine pw_callS (As := [.int (iZ (f k))]) (st := []) C (m_X5_isAtomLetter g l (c0 := f k) (by omega)) my_X5_isAtomLetter ml_X5_65 rfl ⟨Nat.le_of_ble_eq_true rfl, Nat.le_of_ble_eq_true rfl⟩ ⟨by (try dsimp only); omega, by (try dsimp only); omega⟩ rfl (Nat.le_of_ble_eq_true rfl) dX5_behindWord_13 ?_
        rintro _ _ ⟨rfl, rfl⟩
        refine pw_stk (st' := [.int (iZ (b2i (atL (f k))))]) rfl ?_
        refine pw_if_eqB (tgt := 25) C dX5_behindWord_16 (by decide) (fun h_23 => ?_) (fun h_23 => ?_)
        · refine pw_iload_n (i := 3) C dX5_behindWord_25 rfl rfl ?_
          refine pw_iload_n (i := 1) C dX5_behindWord_26 rfl rfl ?_
          refine pw_icmp_ne (tgt := 36) C (by omega) (by omega) dX5_behindWord_27 (by decide) (fun h_24 => ?_) (fun h_24 => ?_)
          · refine pw_iload_n (i := 3) C dX5_behindWord_36 rfl rfl ?_
            exact pw_iret C hr dX5_behindWord_37 ⟨rfl, by rw [hE k (by omega) (by rw [← hq, rWe, if_neg (by rw [h_23]; decide)])]⟩
          · refine pw_iload_n (i := 1) C dX5_behindWord_30 rfl rfl ?_
            refine pw_iconst C dX5_behindWord_31 ?_
            refine pw_iadd C dX5_behindWord_32 ?_
            refine pw_goto (tgt := 37) C dX5_behindWord_33 (by decide) ?_
            exact pw_iret C hr dX5_behindWord_37 ⟨rfl, by rw [hE1 (by rw [← hq, rWe, if_neg (by rw [h_23]; decide)]; omega)]⟩
        · refine pw_iinc (lv' := [(0, .ref (A 8)), (1, .int (iZ i)), (2, .int (iZ len)), (3, .int (iZ (k + 1)))]) C dX5_behindWord_19 rfl (by decide) rfl ?_
          refine pw_goto (tgt := 2) C dX5_behindWord_22 (by decide) ?_
          exact ih (k + 1) (by omega) (by rw [← hq, rWe, if_pos h_23])
  refine pw_iload_n (i := 1) C dX5_behindWord_0 rfl rfl ?_
  refine pw_istore_n (i := 3) (lv' := [(0, .ref (A 8)), (1, .int (iZ i)), (2, .int (iZ len)), (3, .int (iZ i))]) C dX5_behindWord_1 rfl (by decide) rfl ?_
  exact loop (len - i).toNat i (by omega) rfl

theorem rAt_d {f : Int → Int} {i j : Int} {v p : Nat} (h : scF f (j - i).toNat i true 0 0 = (true, v, p)) : rAt f i j = if v ≤ 4611686018427387903 then some (.arg v) else none := by unfold rAt; rw [h]; rfl
theorem rAt_s {f : Int → Int} {i j : Int} {v p : Nat} (h : scF f (j - i).toNat i true 0 0 = (false, v, p)) : rAt f i j = if j - i ≤ 11 then some (.index p) else none := by unfold rAt; rw [h]; rfl
def amC (v : Nat) : Int := if v ≤ 4611686018427387903 then (v : Int) else 4611686018427387904
theorem amC_rng (v : Nat) : 0 ≤ amC v ∧ amC v ≤ 4611686018427387904 := by unfold amC; split <;> omega
theorem amC_hi {v : Nat} {d : Int} (hd : 0 ≤ d ∧ d ≤ 9) (h : (4611686018427387903 - d) / 10 < amC v) : amC (10 * v + d.toNat) = 4611686018427387904 := by
  unfold amC at h ⊢
  split at h <;> rw [if_neg (by omega)]
theorem amC_lo {v : Nat} {d : Int} (hd : 0 ≤ d ∧ d ≤ 9) (h : amC v ≤ (4611686018427387903 - d) / 10) : amC (10 * v + d.toNat) = amC v * 10 + d := by
  unfold amC at h ⊢
  split at h
  · rename_i q; rw [if_pos q, if_pos (by omega)]; omega
  · omega
set_option maxRecDepth 100000 in
set_option maxHeartbeats 4000000 in
/-- scanAtom -/
theorem m_X5_scanAtom (g : pw_P) (l : Launch) {w : pw_W} {A : Nat → Nat} {ln fa pl ic op wd am sp : Int} {dg : Bool} {f : Int → Int} (h8 : w 8 = (A 8, some (rdE A ln fa pl ic op wd dg am sp))) (h9 : w 9 = (A 9, some (AC g 3000 f))) (hfc : ∀ j, 0 ≤ f j ∧ f j < 256) {i j : Int} (hi : 0 ≤ i ∧ i ≤ j) (hj : j ≤ 3000) (hat : ∀ k, i ≤ k → k < j → atL (f k) = true) : pw_M g l yX5_scanAtom cX5_scanAtom 5 (some .boolean) { frames := 4, cells := 0, slots := 0, locals := 91 } [.ref (A 8), .int (iZ i), .int (iZ j)] w (fun r w' => r = some (.int (iZ (b2i (rAt f i j).isSome))) ∧ w' 8 = (A 8, some (rdE A ln fa pl ic op wd (scF f (j - i).toNat i true 0 0).1 (amC (scF f (j - i).toNat i true 0 0).2.1) (((scF f (j - i).toNat i true 0 0).2.2 : Nat) : Int))) ∧ ∀ k, k ≠ 8 → w' k = w k) := by
  refine pw_M.of (by decide) (Nat.le_of_ble_eq_true rfl) rfl ?_
  intro p e s m args below meth c C hr hn
  have loop : ∀ (kk : Nat) (w1 : pw_W) (k : Int) (d1 : Bool) (v p1 : Nat), k + kk = j ∧ i ≤ k → w1 8 = (A 8, some (rdE A ln fa pl ic op wd d1 (amC v) ((p1 : Nat) : Int))) → w1 9 = (A 9, some (AC g 3000 f)) → scF f kk k d1 v p1 = (scF f (j - i).toNat i true 0 0) → (∀ k, k ≠ 8 → w1 k = w k) → pw_G g p l e { frames := 4, cells := 0, slots := 0, locals := 91 } s m args below meth c 5 (pw_Q g below (fun r w' => r = some (.int (iZ (b2i (rAt f i j).isSome))) ∧ w' 8 = (A 8, some (rdE A ln fa pl ic op wd (scF f (j - i).toNat i true 0 0).1 (amC (scF f (j - i).toNat i true 0 0).2.1) (((scF f (j - i).toNat i true 0 0).2.2 : Nat) : Int))) ∧ ∀ k, k ≠ 8 → w' k = w k) args s { frames := 4, cells := 0, slots := 0, locals := 91 }) 0 0 17 [(0, .ref (A 8)), (1, .int (iZ i)), (2, .int (iZ j)), (3, .int (iZ k))] [] w1 := by
    intro kk
    induction kk with
    | zero =>
      intro w1 k d1 v p1 hk h81 h91 hq hf1
      refine pw_iload_n (i := 3) C dX5_scanAtom_17 rfl rfl ?_
      refine pw_iload_n (i := 2) C dX5_scanAtom_18 rfl rfl ?_
      refine pw_icmp_ge (tgt := 129) C (by omega) (by omega) dX5_scanAtom_19 (by decide) (fun h_11 => ?_) (fun h_11 => ?_)
      · have hav := amC_rng v
        refine pw_aload_n (i := 0) C dX5_scanAtom_129 rfl rfl (Or.inr ⟨_, rfl⟩) ?_
        refine pw_get (j := 11) C cl_X5 fl_X5_84 (by decide) rfl h81 rfl dX5_scanAtom_130 ?_
        refine pw_if_eqB (tgt := 155) C dX5_scanAtom_133 (by decide) (fun h_12 => ?_) (fun h_12 => ?_)
        · refine pw_iload_n (i := 2) C dX5_scanAtom_155 rfl rfl ?_
          refine pw_iload_n (i := 1) C dX5_scanAtom_156 rfl rfl ?_
          refine pw_isub C dX5_scanAtom_157 ?_
          refine pw_bipush C dX5_scanAtom_158 (by decide) ?_
          refine pw_icmp_gt (tgt := 167) C (by omega) (by omega) dX5_scanAtom_160 (by decide) (fun h_13 => ?_) (fun h_13 => ?_)
          · refine pw_iconst C dX5_scanAtom_167 ?_
            refine pw_zret C hr (by decide +kernel) dX5_scanAtom_168 ⟨?_, by rw [← hq]; exact h81, hf1⟩
            rw [show (rAt f i j).isSome = false from by rw [rAt_s (v := v) (p := p1) (by rw [← hq, h_12]; rfl), if_neg (by omega)]; rfl]; rfl
          · refine pw_iconst C dX5_scanAtom_163 ?_
            refine pw_goto (tgt := 168) C dX5_scanAtom_164 (by decide) ?_
            refine pw_zret C hr (by decide +kernel) dX5_scanAtom_168 ⟨?_, by rw [← hq]; exact h81, hf1⟩
            rw [show (rAt f i j).isSome = true from by rw [rAt_s (v := v) (p := p1) (by rw [← hq, h_12]; rfl), if_pos (by omega)]; rfl]; rfl
        · refine pw_aload_n (i := 0) C dX5_scanAtom_136 rfl rfl (Or.inr ⟨_, rfl⟩) ?_
          refine pw_get (j := 12) C cl_X5 fl_X5_88 (by decide) rfl h81 rfl dX5_scanAtom_137 ?_
          refine pw_ldc2 (z := 4611686018427387903) C kj_X5_97 (by decide) dX5_scanAtom_140 ?_
          refine pw_lcmp C (by omega) (by omega) dX5_scanAtom_143 ?_
          refine pw_if_gt (tgt := 151) C (cmpZ_in _ _) dX5_scanAtom_144 (by decide) (fun h_14 => ?_) (fun h_14 => ?_)
          · have h_14 := cmpZ_gt1 h_14
            refine pw_iconst C dX5_scanAtom_151 ?_
            refine pw_goto (tgt := 168) C dX5_scanAtom_152 (by decide) ?_
            refine pw_zret C hr (by decide +kernel) dX5_scanAtom_168 ⟨?_, by rw [← hq]; exact h81, hf1⟩
            rw [show (rAt f i j).isSome = false from by rw [rAt_d (v := v) (p := p1) (by rw [← hq, h_12]; rfl), if_neg (by unfold amC at h_14; split at h_14 <;> omega)]; rfl]; rfl
          · have h_14 := cmpZ_le1 h_14
            refine pw_iconst C dX5_scanAtom_147 ?_
            refine pw_goto (tgt := 168) C dX5_scanAtom_148 (by decide) ?_
            refine pw_zret C hr (by decide +kernel) dX5_scanAtom_168 ⟨?_, by rw [← hq]; exact h81, hf1⟩
            rw [show (rAt f i j).isSome = true from by rw [rAt_d (v := v) (p := p1) (by rw [← hq, h_12]; rfl), if_pos (by unfold amC at h_14; split at h_14 <;> omega)]; rfl]; rfl
      · exfalso; omega
    | succ kk ih =>
      intro w1 k d1 v p1 hk h81 h91 hq hf1
      refine pw_iload_n (i := 3) C dX5_scanAtom_17 rfl rfl ?_
      refine pw_iload_n (i := 2) C dX5_scanAtom_18 rfl rfl ?_
      refine pw_icmp_ge (tgt := 129) C (by omega) (by omega) dX5_scanAtom_19 (by decide) (fun h_41 => ?_) (fun h_41 => ?_)
      · exfalso; omega
      · have hak := hat k (by omega) (by omega)
        have hik : 0 < ixZ 1 (f k) := of_decide_eq_true hak
        refine pw_aload_n (i := 0) C dX5_scanAtom_22 rfl rfl (Or.inr ⟨_, rfl⟩) ?_
        refine pw_get (j := 1) C cl_X5 fl_X5_9 (by decide) rfl h81 rfl dX5_scanAtom_23 ?_
        refine pw_iload_n (i := 3) C dX5_scanAtom_26 rfl rfl ?_
        have g_42 := hfc k
        refine pw_cald C h91 ⟨by omega, by omega, by omega⟩ dX5_scanAtom_27 ?_
        refine pw_bipush C dX5_scanAtom_28 (by decide) ?_
        refine pw_isub C dX5_scanAtom_30 ?_
        refine pw_istore (lv' := [(0, .ref (A 8)), (1, .int (iZ i)), (2, .int (iZ j)), (3, .int (iZ k)), (4, .int (iZ (f k - 48)))]) C dX5_scanAtom_31 (by decide) rfl ?_
        refine pw_aload_n (i := 0) C dX5_scanAtom_33 rfl rfl (Or.inr ⟨_, rfl⟩) ?_
        refine pw_aload_n (i := 0) C dX5_scanAtom_34 rfl rfl (Or.inr ⟨_, rfl⟩) ?_
        refine pw_get (j := 13) C cl_X5 fl_X5_92 (by decide) rfl h81 rfl dX5_scanAtom_35 ?_
        refine pw_ldc2 (z := 47) C kj_X5_95 (by decide) dX5_scanAtom_38 ?_
        refine pw_lmul C dX5_scanAtom_41 ?_
        refine pw_ldcS C C.str76 dX5_scanAtom_42 ?_
        refine pw_aload_n (i := 0) C dX5_scanAtom_44 rfl rfl (Or.inr ⟨_, rfl⟩) ?_
        refine pw_get (j := 1) C cl_X5 fl_X5_9 (by decide) rfl h81 rfl dX5_scanAtom_45 ?_
        refine pw_iload_n (i := 3) C dX5_scanAtom_48 rfl rfl ?_
        have g_43 := hfc k
        refine pw_cald C h91 ⟨by omega, by omega, by omega⟩ dX5_scanAtom_49 ?_
        refine pw_callV (As := [.int (iZ (f k))]) (st := [.long (lZ (((p1 : Nat) : Int) * 47)), .ref (A 8)]) C (m_J0_indexOf_0f7a4 g l (i := 1) (by decide) (x := f k) (by omega)) my_J0_indexOf_0f7a4 ml_X5_78 (pw_rec.str C (by decide)) rfl ⟨Nat.le_of_ble_eq_true rfl, Nat.le_of_ble_eq_true rfl⟩ ⟨Nat.le_of_ble_eq_true rfl, Nat.le_of_ble_eq_true rfl⟩ rfl (Nat.le_of_ble_eq_true rfl) dX5_scanAtom_50 ?_
        rintro _ _ ⟨rfl, rfl⟩
        have g_44 := ixZ_rng (f k)
        refine pw_stk (st' := [.int (iZ (ixZ 1 (f k))), .long (lZ (((p1 : Nat) : Int) * 47)), .ref (A 8)]) rfl ?_
        refine pw_i2l C (by omega) dX5_scanAtom_53 ?_
        refine pw_ladd C dX5_scanAtom_54 ?_
        refine pw_put (j := 13) C cl_X5 fl_X5_92 (by decide) rfl rfl rfl rfl rfl h81 (Nat.le_of_ble_eq_true rfl) dX5_scanAtom_55 (fun w_47 k_45 o_46 => ?_)
        have k_48 : w_47 8 = ((A 8), some (OB 5 [.ref (A 2), .ref (A 9), .int (iZ ln), .int (iZ fa), .int (iZ pl), .ref (A 10), .int (iZ ic), .ref (A 11), .ref (A 12), .int (iZ op), .int (iZ wd), .int (iZ (b2i d1)), .long (lZ (amC v)), .long (lZ ((((p1 : Nat) : Int) * 47) + (ixZ 1 (f k))))])) := k_45
        refine pw_iload C dX5_scanAtom_58 rfl ?_
        refine pw_if_lt (tgt := 70) C (by omega) dX5_scanAtom_60 (by decide) (fun h_49 => ?_) (fun h_49 => ?_)
        · refine pw_aload_n (i := 0) C dX5_scanAtom_70 rfl rfl (Or.inr ⟨_, rfl⟩) ?_
          refine pw_iconst C dX5_scanAtom_71 ?_
          refine pw_put (j := 11) C cl_X5 fl_X5_84 (by decide) rfl rfl rfl (by decide +kernel) (by decide +kernel) k_48 (Nat.le_of_ble_eq_true rfl) dX5_scanAtom_72 (fun w_52 k_50 o_51 => ?_)
          have k_53 : w_52 8 = ((A 8), some (OB 5 [.ref (A 2), .ref (A 9), .int (iZ ln), .int (iZ fa), .int (iZ pl), .ref (A 10), .int (iZ ic), .ref (A 11), .ref (A 12), .int (iZ op), .int (iZ wd), .int (iZ 0), .long (lZ (amC v)), .long (lZ ((((p1 : Nat) : Int) * 47) + (ixZ 1 (f k))))])) := k_50
          refine pw_goto (tgt := 123) C dX5_scanAtom_75 (by decide) ?_
          refine pw_iinc (lv' := [(0, .ref (A 8)), (1, .int (iZ i)), (2, .int (iZ j)), (3, .int (iZ (k + 1))), (4, .int (iZ (f k - 48)))]) C dX5_scanAtom_123 rfl (by decide) rfl ?_
          refine pw_goto (tgt := 17) C dX5_scanAtom_126 (by decide) ?_
          refine pw_sub [0, 1, 2, 3] rfl ?_
          have c_54 := ((o_51 9 (by omega)).trans (o_46 9 (by omega))).trans h91
          have hdg : isDg (f k) = false := decide_eq_false (by omega)
          refine ih w_52 (k + 1) false v (p1 * 47 + (ixZ 1 (f k)).toNat) (by omega) ?_ c_54 ?_ (fun k0 hk0 => ((o_51 k0 hk0).trans (o_46 k0 hk0)).trans (hf1 k0 hk0))
          · rw [k_53, show ((p1 * 47 + (ixZ 1 (f k)).toNat : Nat) : Int) = (p1 : Int) * 47 + ixZ 1 (f k) by omega]; rfl
          · rw [← hq, scF, hdg]; simp only [Bool.and_false, Bool.false_eq_true, if_false]
        · refine pw_iload C dX5_scanAtom_63 rfl ?_
          refine pw_bipush C dX5_scanAtom_65 (by decide) ?_
          refine pw_icmp_le (tgt := 78) C (by omega) (by omega) dX5_scanAtom_67 (by decide) (fun h_55 => ?_) (fun h_55 => ?_)
          · have hav := amC_rng v
            refine pw_aload_n (i := 0) C dX5_scanAtom_78 rfl rfl (Or.inr ⟨_, rfl⟩) ?_
            refine pw_get (j := 12) C cl_X5 fl_X5_88 (by decide) rfl k_48 rfl dX5_scanAtom_79 ?_
            refine pw_ldc2 (z := 4611686018427387903) C kj_X5_97 (by decide) dX5_scanAtom_82 ?_
            refine pw_iload C dX5_scanAtom_85 rfl ?_
            refine pw_i2l C (by omega) dX5_scanAtom_87 ?_
            refine pw_lsub C dX5_scanAtom_88 ?_
            refine pw_ldc2 (z := 10) C kj_X5_99 (by decide) dX5_scanAtom_89 ?_
            refine pw_ldiv C ⟨by omega, by omega⟩ ⟨by omega, by omega⟩ dX5_scanAtom_92 ?_
            refine pw_lcmp C (by omega) (by omega) dX5_scanAtom_93 ?_
            refine pw_if_le (tgt := 107) C (cmpZ_in _ _) dX5_scanAtom_94 (by decide) (fun h_56 => ?_) (fun h_56 => ?_)
            · have h_56 := cmpZ_le1 h_56
              refine pw_aload_n (i := 0) C dX5_scanAtom_107 rfl rfl (Or.inr ⟨_, rfl⟩) ?_
              refine pw_aload_n (i := 0) C dX5_scanAtom_108 rfl rfl (Or.inr ⟨_, rfl⟩) ?_
              refine pw_get (j := 12) C cl_X5 fl_X5_88 (by decide) rfl k_48 rfl dX5_scanAtom_109 ?_
              refine pw_ldc2 (z := 10) C kj_X5_99 (by decide) dX5_scanAtom_112 ?_
              refine pw_lmul C dX5_scanAtom_115 ?_
              refine pw_iload C dX5_scanAtom_116 rfl ?_
              refine pw_i2l C (by omega) dX5_scanAtom_118 ?_
              refine pw_ladd C dX5_scanAtom_119 ?_
              refine pw_put (j := 12) C cl_X5 fl_X5_88 (by decide) rfl rfl rfl rfl rfl k_48 (Nat.le_of_ble_eq_true rfl) dX5_scanAtom_120 (fun w_59 k_57 o_58 => ?_)
              have k_60 : w_59 8 = ((A 8), some (OB 5 [.ref (A 2), .ref (A 9), .int (iZ ln), .int (iZ fa), .int (iZ pl), .ref (A 10), .int (iZ ic), .ref (A 11), .ref (A 12), .int (iZ op), .int (iZ wd), .int (iZ (b2i d1)), .long (lZ (((amC v) * 10) + (f k - 48))), .long (lZ ((((p1 : Nat) : Int) * 47) + (ixZ 1 (f k))))])) := k_57
              refine pw_iinc (lv' := [(0, .ref (A 8)), (1, .int (iZ i)), (2, .int (iZ j)), (3, .int (iZ (k + 1))), (4, .int (iZ (f k - 48)))]) C dX5_scanAtom_123 rfl (by decide) rfl ?_
              refine pw_goto (tgt := 17) C dX5_scanAtom_126 (by decide) ?_
              refine pw_sub [0, 1, 2, 3] rfl ?_
              have c_61 := ((o_58 9 (by omega)).trans (o_46 9 (by omega))).trans h91
              have hdg : isDg (f k) = true := decide_eq_true (by omega)
              refine ih w_59 (k + 1) d1 (10 * v + (f k - 48).toNat) (p1 * 47 + (ixZ 1 (f k)).toNat) (by omega) ?_ c_61 ?_ (fun k0 hk0 => ((o_58 k0 hk0).trans (o_46 k0 hk0)).trans (hf1 k0 hk0))
              · rw [k_60, show amC (10 * v + (f k - 48).toNat) = _ from amC_lo (d := f k - 48) (by omega) (by omega), show ((p1 * 47 + (ixZ 1 (f k)).toNat : Nat) : Int) = (p1 : Int) * 47 + ixZ 1 (f k) by omega]
              · rw [← hq, scF, hdg]; simp only [Bool.and_true, if_true]
            · have h_56 := cmpZ_gt1 h_56
              refine pw_aload_n (i := 0) C dX5_scanAtom_97 rfl rfl (Or.inr ⟨_, rfl⟩) ?_
              refine pw_ldc2 (z := 4611686018427387904) C kj_X5_101 (by decide) dX5_scanAtom_98 ?_
              refine pw_put (j := 12) C cl_X5 fl_X5_88 (by decide) rfl rfl rfl rfl rfl k_48 (Nat.le_of_ble_eq_true rfl) dX5_scanAtom_101 (fun w_64 k_62 o_63 => ?_)
              have k_65 : w_64 8 = ((A 8), some (OB 5 [.ref (A 2), .ref (A 9), .int (iZ ln), .int (iZ fa), .int (iZ pl), .ref (A 10), .int (iZ ic), .ref (A 11), .ref (A 12), .int (iZ op), .int (iZ wd), .int (iZ (b2i d1)), .long (lZ 4611686018427387904), .long (lZ ((((p1 : Nat) : Int) * 47) + (ixZ 1 (f k))))])) := k_62
              refine pw_goto (tgt := 123) C dX5_scanAtom_104 (by decide) ?_
              refine pw_iinc (lv' := [(0, .ref (A 8)), (1, .int (iZ i)), (2, .int (iZ j)), (3, .int (iZ (k + 1))), (4, .int (iZ (f k - 48)))]) C dX5_scanAtom_123 rfl (by decide) rfl ?_
              refine pw_goto (tgt := 17) C dX5_scanAtom_126 (by decide) ?_
              refine pw_sub [0, 1, 2, 3] rfl ?_
              have c_66 := ((o_63 9 (by omega)).trans (o_46 9 (by omega))).trans h91
              have hdg : isDg (f k) = true := decide_eq_true (by omega)
              refine ih w_64 (k + 1) d1 (10 * v + (f k - 48).toNat) (p1 * 47 + (ixZ 1 (f k)).toNat) (by omega) ?_ c_66 ?_ (fun k0 hk0 => ((o_63 k0 hk0).trans (o_46 k0 hk0)).trans (hf1 k0 hk0))
              · rw [k_65, show amC (10 * v + (f k - 48).toNat) = _ from amC_hi (d := f k - 48) (by omega) (by omega), show ((p1 * 47 + (ixZ 1 (f k)).toNat : Nat) : Int) = (p1 : Int) * 47 + ixZ 1 (f k) by omega]
              · rw [← hq, scF, hdg]; simp only [Bool.and_true, if_true]
          · refine pw_aload_n (i := 0) C dX5_scanAtom_70 rfl rfl (Or.inr ⟨_, rfl⟩) ?_
            refine pw_iconst C dX5_scanAtom_71 ?_
            refine pw_put (j := 11) C cl_X5 fl_X5_84 (by decide) rfl rfl rfl (by decide +kernel) (by decide +kernel) k_48 (Nat.le_of_ble_eq_true rfl) dX5_scanAtom_72 (fun w_69 k_67 o_68 => ?_)
            have k_70 : w_69 8 = ((A 8), some (OB 5 [.ref (A 2), .ref (A 9), .int (iZ ln), .int (iZ fa), .int (iZ pl), .ref (A 10), .int (iZ ic), .ref (A 11), .ref (A 12), .int (iZ op), .int (iZ wd), .int (iZ 0), .long (lZ (amC v)), .long (lZ ((((p1 : Nat) : Int) * 47) + (ixZ 1 (f k))))])) := k_67
            refine pw_goto (tgt := 123) C dX5_scanAtom_75 (by decide) ?_
            refine pw_iinc (lv' := [(0, .ref (A 8)), (1, .int (iZ i)), (2, .int (iZ j)), (3, .int (iZ (k + 1))), (4, .int (iZ (f k - 48)))]) C dX5_scanAtom_123 rfl (by decide) rfl ?_
            refine pw_goto (tgt := 17) C dX5_scanAtom_126 (by decide) ?_
            refine pw_sub [0, 1, 2, 3] rfl ?_
            have c_71 := ((o_68 9 (by omega)).trans (o_46 9 (by omega))).trans h91
            have hdg : isDg (f k) = false := decide_eq_false (by omega)
            refine ih w_69 (k + 1) false v (p1 * 47 + (ixZ 1 (f k)).toNat) (by omega) ?_ c_71 ?_ (fun k0 hk0 => ((o_68 k0 hk0).trans (o_46 k0 hk0)).trans (hf1 k0 hk0))
            · rw [k_70, show ((p1 * 47 + (ixZ 1 (f k)).toNat : Nat) : Int) = (p1 : Int) * 47 + ixZ 1 (f k) by omega]; rfl
            · rw [← hq, scF, hdg]; simp only [Bool.and_false, Bool.false_eq_true, if_false]
  refine pw_aload_n (i := 0) C dX5_scanAtom_0 rfl rfl (Or.inr ⟨_, rfl⟩) ?_
  refine pw_iconst C dX5_scanAtom_1 ?_
  refine pw_put (j := 11) C cl_X5 fl_X5_84 (by decide) rfl rfl rfl (by decide +kernel) (by decide +kernel) h8 (Nat.le_of_ble_eq_true rfl) dX5_scanAtom_2 (fun w_203 k_201 o_202 => ?_)
  have k_204 : w_203 8 = ((A 8), some (OB 5 [.ref (A 2), .ref (A 9), .int (iZ ln), .int (iZ fa), .int (iZ pl), .ref (A 10), .int (iZ ic), .ref (A 11), .ref (A 12), .int (iZ op), .int (iZ wd), .int (iZ 1), .long (lZ am), .long (lZ sp)])) := k_201
  refine pw_aload_n (i := 0) C dX5_scanAtom_5 rfl rfl (Or.inr ⟨_, rfl⟩) ?_
  refine pw_lconst (z := 0) C dX5_scanAtom_6 (by decide) ?_
  refine pw_put (j := 12) C cl_X5 fl_X5_88 (by decide) rfl rfl rfl rfl rfl k_204 (Nat.le_of_ble_eq_true rfl) dX5_scanAtom_7 (fun w_207 k_205 o_206 => ?_)
  have k_208 : w_207 8 = ((A 8), some (OB 5 [.ref (A 2), .ref (A 9), .int (iZ ln), .int (iZ fa), .int (iZ pl), .ref (A 10), .int (iZ ic), .ref (A 11), .ref (A 12), .int (iZ op), .int (iZ wd), .int (iZ 1), .long (lZ 0), .long (lZ sp)])) := k_205
  refine pw_aload_n (i := 0) C dX5_scanAtom_10 rfl rfl (Or.inr ⟨_, rfl⟩) ?_
  refine pw_lconst (z := 0) C dX5_scanAtom_11 (by decide) ?_
  refine pw_put (j := 13) C cl_X5 fl_X5_92 (by decide) rfl rfl rfl rfl rfl k_208 (Nat.le_of_ble_eq_true rfl) dX5_scanAtom_12 (fun w_211 k_209 o_210 => ?_)
  have k_212 : w_211 8 = ((A 8), some (OB 5 [.ref (A 2), .ref (A 9), .int (iZ ln), .int (iZ fa), .int (iZ pl), .ref (A 10), .int (iZ ic), .ref (A 11), .ref (A 12), .int (iZ op), .int (iZ wd), .int (iZ 1), .long (lZ 0), .long (lZ 0)])) := k_209
  refine pw_iload_n (i := 1) C dX5_scanAtom_15 rfl rfl ?_
  refine pw_istore_n (i := 3) (lv' := [(0, .ref (A 8)), (1, .int (iZ i)), (2, .int (iZ j)), (3, .int (iZ i))]) C dX5_scanAtom_16 rfl (by decide) rfl ?_
  have c_213 := ((o_210 9 (by omega)).trans ((o_206 9 (by omega)).trans (o_202 9 (by omega)))).trans h9
  exact loop (j - i).toNat w_211 i true 0 0 (by omega) k_212 c_213 rfl (fun k hk => (o_210 k hk).trans ((o_206 k hk).trans (o_202 k hk)))

