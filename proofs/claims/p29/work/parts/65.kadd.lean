/-! ===== a way more: what the cells hold, as numbers ===== -/
/-- the cells behind X3_init, ahead of the list's add -/
abbrev k_n6 (G : k_G) (ad : k_Ad) (mm : q_Mem) (F8 : va_E) (qc qv qd : Nat) (kk ff x y tx ty : Int32) : k_Ct := k_up (k_up (k_up (k_up (k_up (k_up (k_C G ad mm) 1 (sp_W mm) F8) 4 (sp_K mm) (.inr (1, [.int kk, .int 0, .int ff]))) 0 0 (.inr (5, [.ref (ad 0 1), .ref (ad 0 2), .ref (ad 0 3), .ref (ad 0 4), .ref (ad 0 5), .int (mm 10 0 + 1)]))) 3 (sp_K mm) (.inr (3, [.ref qc, .int (mm 10 0 + 1), .int 0, .null]))) 2 (sp_W mm) (.inl (G.2.1, 9, .inl (fun j => if j < 9 then -1 else 0)))) 1 (sp_W mm) (.inr (4, [.int x, .int y, .int tx, .int ty, .int 0, .ref qv, .null, .ref qd]))
theorem k_er_rw {ad AD : k_Ad} {mm : q_Mem} (h : ∀ j, j < sp_W mm → AD 1 j = ad 1 j) : k_er ad mm = k_rw AD (sp_W mm) := by
  funext j
  unfold k_er k_rw
  by_cases hj : j < sp_W mm
  · rw [if_pos hj, if_pos hj, h j hj]
  · rw [if_neg hj, if_neg hj]
section
variable {G : k_G} {ad AD : k_Ad} {mm : q_Mem} {F8 : va_E} {qc qv qd : Nat} {kk ff x y tx ty : Int32}
theorem n6_li (hI : Inv mm) (h6 : AD 0 6 = ad 0 6) : k_n6 G ad mm F8 qc qv qd kk ff x y tx ty 0 1 = some (.inr (0, [.int (mm 1 0), .ref (if sp_W mm = 0 then G.2.2.2.2.1 else AD 0 6), .int (nI (sp_W mm))])) := by
  unfold k_n6
  rw [k_up_o (by simp), k_up_o (by simp), k_up_o (by simp), k_up_o (by simp), k_up_o (by simp), k_up_o (by simp)]
  show some (Sum.inr (0, k_li G ad mm)) = _
  unfold k_li
  rw [h6, hI.W]
theorem n6_row (h : ∀ j, j < sp_W mm → AD 1 j = ad 1 j) : k_n6 G ad mm F8 qc qv qd kk ff x y tx ty 0 6 = if sp_W mm = 0 then none else some (k_row G AD (k_cp (sp_W mm)) (sp_W mm)) := by
  unfold k_n6
  rw [k_up_o (by simp), k_up_o (by simp), k_up_o (by simp), k_up_o (by simp), k_up_o (by simp), k_up_o (by simp)]
  show (if sp_W mm = 0 then none else some (.inl (G.2.2.2.1, k_cp (sp_W mm), .inr (.inr (.inr (.inr (k_er ad mm)))))) : Option va_E) = _
  rw [k_er_rw h]
theorem n6_free : k_n6 G ad mm F8 qc qv qd kk ff x y tx ty 0 7 = none := by
  unfold k_n6
  rw [k_up_o (by simp), k_up_o (by simp), k_up_o (by simp), k_up_o (by simp), k_up_o (by simp), k_up_o (by simp)]
  show (none : Option va_E) = none
  rfl
theorem n6_el : ∀ j, j < sp_W mm → ∃ fs, k_n6 G ad mm F8 qc qv qd kk ff x y tx ty 1 j = some (.inr (4, fs)) := fun j hj => by
  have hne : ¬ (1 = 1 ∧ j = sp_W mm) := fun z => by omega
  refine ⟨k_wy ad mm j, ?_⟩
  unfold k_n6
  rw [k_up_o hne, k_up_o (by simp), k_up_o (by simp), k_up_o (by simp), k_up_o (by simp), k_up_o hne]
  exact kc_w hj
end
theorem add_19 {mm : q_Mem} {f x y tx ty k : Int32} : sp_add0 (up2 mm 19 0 0) f x y tx ty k = up2 (sp_add0 mm f x y tx ty k) 19 0 0 := by
  have eW : sp_W (up2 mm 19 0 0) = sp_W mm := rfl
  have e1 : up2 mm 19 0 0 1 0 = mm 1 0 := up2_c (by decide)
  unfold sp_add0
  rw [eW, e1, up2_comm (k := 19) (k2 := 2) (by decide), up2_comm (k := 19) (k2 := 3) (by decide), up2_comm (k := 19) (k2 := 4) (by decide), up2_comm (k := 19) (k2 := 5) (by decide), mk_19, up2_comm (k := 19) (k2 := 1) (by decide)]
set_option maxHeartbeats 2000000 in
theorem kadd {G : k_G} {ad AD : k_Ad} {F8 : va_E} {qw qc qv qd qr : Nat} {mm : q_Mem} {k e : Nat} {x y tx ty ff : Int32} (hI : Inv mm) (hW : sp_W mm < 40) (hK1 : sp_K mm < 512) (hk : k < 4) (he : e < 7) (hf : ff = nI e - 1)
    (a1 : ∀ b, AD 1 b = if b = sp_W mm then qw else ad 1 b) (a2 : ∀ b, AD 2 b = if b = sp_W mm then qd else ad 2 b) (a3 : ∀ b, AD 3 b = if b = sp_K mm then qv else ad 3 b) (a4 : ∀ b, AD 4 b = if b = sp_K mm then qc else ad 4 b) (a06 : AD 0 6 = qr) (a0 : ∀ b, b ≠ 6 → AD 0 b = ad 0 b) (a5 : AD 5 = ad 5) (a6 : AD 6 = ad 6) :
    k_up (k_up (k_n6 G ad mm F8 qc qv qd (nI k) ff x y tx ty) 0 6 (k_row G AD (k_cp (sp_W mm + 1)) (sp_W mm + 1))) 0 1 (.inr (0, [.int (mm 1 0 + 1), .ref qr, .int (nI (sp_W mm + 1))])) = k_C G AD (sp_add0 mm ff x y tx ty (nI k)) := by
  unfold sp_add0
  generalize h4 : up2 (up2 (up2 (up2 mm 2 (sp_W mm) x) 3 (sp_W mm) y) 4 (sp_W mm) tx) 5 (sp_W mm) ty = m4
  have r : ∀ j, j ≠ 2 → j ≠ 3 → j ≠ 4 → j ≠ 5 → m4 j = mm j := fun j a b c d => by rw [← h4, up2_k d, up2_k c, up2_k b, up2_k a]
  have q2 : ∀ b, m4 2 b = if b = sp_W mm then x else mm 2 b := fun b => by
    rw [← h4, up2_c (by decide), up2_c (by decide), up2_c (by decide)]
    by_cases h : b = sp_W mm
    · subst h; rw [up2_s, if_pos rfl]
    · rw [up2_i h, if_neg h]
  have q3 : ∀ b, m4 3 b = if b = sp_W mm then y else mm 3 b := fun b => by
    rw [← h4, up2_c (by decide), up2_c (by decide)]
    by_cases h : b = sp_W mm
    · subst h; rw [up2_s, if_pos rfl]
    · rw [up2_i h, if_neg h, up2_c (by decide)]
  have q4 : ∀ b, m4 4 b = if b = sp_W mm then tx else mm 4 b := fun b => by
    rw [← h4, up2_c (by decide)]
    by_cases h : b = sp_W mm
    · subst h; rw [up2_s, if_pos rfl]
    · rw [up2_i h, if_neg h, up2_c (by decide), up2_c (by decide)]
  have q5 : ∀ b, m4 5 b = if b = sp_W mm then ty else mm 5 b := fun b => by
    rw [← h4]
    by_cases h : b = sp_W mm
    · subst h; rw [up2_s, if_pos rfl]
    · rw [up2_i h, if_neg h, up2_c (by decide), up2_c (by decide), up2_c (by decide)]
  have eW4 : sp_W m4 = sp_W mm := by unfold sp_W; rw [r 1 (by decide) (by decide) (by decide) (by decide)]
  have eK4 : sp_K m4 = sp_K mm := by unfold sp_K; rw [r 10 (by decide) (by decide) (by decide) (by decide)]
  have eL4 : ∀ b, sp_L m4 b = sp_L mm b := fun b => by unfold sp_L; rw [r 8 (by decide) (by decide) (by decide) (by decide)]
  have eA4 : ∀ b, sp_A m4 b = sp_A mm b := fun b => by unfold sp_A; rw [r 12 (by decide) (by decide) (by decide) (by decide)]
  obtain ⟨z7, z6, z20⟩ := hI.2.2.2.2.2.2.2.2.2.2.2.2 (sp_W mm) (Nat.le_refl _)
  have K0 : sp_make m4 (sp_W mm) (nI k) 0 ff 10 0 = nI (sp_K mm + 1) := by rw [mk_10, r 10 (by decide) (by decide) (by decide) (by decide), hI.K, nI_1]
  generalize hM : up2 (sp_make m4 (sp_W mm) (nI k) 0 ff) 1 0 (mm 1 0 + 1) = M
  have s : ∀ j, j ≠ 1 → M j = sp_make m4 (sp_W mm) (nI k) 0 ff j := fun j h => by rw [← hM, up2_k h]
  have M1 : M 1 0 = nI (sp_W mm + 1) := by rw [← hM, up2_s, hI.W, nI_1]
  have eW : sp_W M = sp_W mm + 1 := by unfold sp_W; rw [M1, nI_clamp (by omega)]; rfl
  have eK : sp_K M = sp_K mm + 1 := by unfold sp_K; rw [s 10 (by decide), K0, nI_clamp (by omega)]; rfl
  have M11 : ∀ j, M 11 j = if j = sp_K mm then nI (1000 * sp_W mm + 100 * k + 10 * 0 + e) else mm 11 j := fun j => by
    rw [s 11 (by decide), mk_11, eK4, r 11 (by decide) (by decide) (by decide) (by decide), show (0 : Int32) = nI 0 from rfl, mk_co (d := 0) (by omega) hk (by decide) he hf]
  have M12 : ∀ j, M 12 j = if j = sp_K mm then -1 else mm 12 j := fun j => by
    rw [s 12 (by decide), mk_12, eK4, r 12 (by decide) (by decide) (by decide) (by decide), r 7 (by decide) (by decide) (by decide) (by decide), if_pos z7]
  have M21 : ∀ j, M 21 j = if j = sp_K mm then 0 else mm 21 j := fun j => by
    rw [s 21 (by decide), mk_21, eK4, r 21 (by decide) (by decide) (by decide) (by decide), r 7 (by decide) (by decide) (by decide) (by decide), if_pos z7]
  have M8 : ∀ b, M 8 b = if b = sp_W mm then nI (sp_K mm) else mm 8 b := fun b => by
    rw [s 8 (by decide), mk_8, r 8 (by decide) (by decide) (by decide) (by decide), r 10 (by decide) (by decide) (by decide) (by decide), hI.K]
  have M7 : ∀ b, M 7 b = if b = sp_W mm then nI 1 else mm 7 b := fun b => by
    rw [s 7 (by decide), mk_7, r 7 (by decide) (by decide) (by decide) (by decide), z7]; rfl
  have M9 : ∀ b, M 9 b = if b = sp_W mm then -1 else mm 9 b := fun b => by
    rw [s 9 (by decide), mk_9, r 9 (by decide) (by decide) (by decide) (by decide)]
  have Mo : ∀ j, j ≠ 1 → (j ≠ 11 ∧ j ≠ 12 ∧ j ≠ 8 ∧ j ≠ 7 ∧ j ≠ 9 ∧ j ≠ 10 ∧ j ≠ 21) → M j = m4 j := fun j h1 h2 => by rw [s j h1, mk_o h2]
  have ML : ∀ b, sp_L M b = if b = sp_W mm then sp_K mm else sp_L mm b := fun b => by
    unfold sp_L; rw [M8]
    by_cases h : b = sp_W mm
    · rw [if_pos h, if_pos h, nI_clamp (by omega)]
    · rw [if_neg h, if_neg h]
  have MA : ∀ j, j ≠ sp_K mm → sp_A M j = sp_A mm j := fun j h => by unfold sp_A; rw [M12, if_neg h]
  have Mq : ∀ j, j ≠ 1 → (j ≠ 11 ∧ j ≠ 12 ∧ j ≠ 8 ∧ j ≠ 7 ∧ j ≠ 9 ∧ j ≠ 10 ∧ j ≠ 21) → j ≠ 2 → j ≠ 3 → j ≠ 4 → j ≠ 5 → M j = mm j := fun j h1 h2 h3 h4 h5 h6 => by rw [Mo j h1 h2, r j h3 h4 h5 h6]
  have M10 : M 10 0 = mm 10 0 + 1 := by rw [s 10 (by decide), K0, hI.K, nI_1]
  have M6 : M 6 = mm 6 := Mq 6 (by decide) (by decide) (by decide) (by decide) (by decide) (by decide)
  have M13 : M 13 = mm 13 := Mq 13 (by decide) (by decide) (by decide) (by decide) (by decide) (by decide)
  have M14 : M 14 = mm 14 := Mq 14 (by decide) (by decide) (by decide) (by decide) (by decide) (by decide)
  have M20 : M 20 = mm 20 := Mq 20 (by decide) (by decide) (by decide) (by decide) (by decide) (by decide)
  have M0 : M 0 = mm 0 := Mq 0 (by decide) (by decide) (by decide) (by decide) (by decide) (by decide)
  have M15 : M 15 = mm 15 := Mq 15 (by decide) (by decide) (by decide) (by decide) (by decide) (by decide)
  have M16 : M 16 = mm 16 := Mq 16 (by decide) (by decide) (by decide) (by decide) (by decide) (by decide)
  have M2 : ∀ b, M 2 b = if b = sp_W mm then x else mm 2 b := fun b => by rw [Mo 2 (by decide) (by decide)]; exact q2 b
  have M3 : ∀ b, M 3 b = if b = sp_W mm then y else mm 3 b := fun b => by rw [Mo 3 (by decide) (by decide)]; exact q3 b
  have M4 : ∀ b, M 4 b = if b = sp_W mm then tx else mm 4 b := fun b => by rw [Mo 4 (by decide) (by decide)]; exact q4 b
  have M5 : ∀ b, M 5 b = if b = sp_W mm then ty else mm 5 b := fun b => by rw [Mo 5 (by decide) (by decide)]; exact q5 b
  have w1 : ∀ b, b < sp_W mm → k_wy AD M b = k_wy ad mm b := fun b hb => by
    have hne : b ≠ sp_W mm := by omega
    have hL := hI.LK hb
    unfold k_wy
    rw [M2, if_neg hne, M3, if_neg hne, M4, if_neg hne, M5, if_neg hne, M6, ML, if_neg hne, M9, if_neg hne, a3, if_neg (by omega), a5, a2, if_neg hne]
  have wW : k_wy AD M (sp_W mm) = [.int x, .int y, .int tx, .int ty, .int 0, .ref qv, .null, .ref qd] := by
    unfold k_wy
    rw [M2, if_pos rfl, M3, if_pos rfl, M4, if_pos rfl, M5, if_pos rfl, M6, z6, ML, if_pos rfl, M9, if_pos rfl, a3, if_pos rfl, a2, if_pos rfl]
    unfold k_rf
    rw [if_pos rfl]
  have v1 : ∀ j, j < sp_K mm → k_vs AD M j = k_vs ad mm j := fun j hj => by
    have hne : j ≠ sp_K mm := by omega
    unfold k_vs
    rw [a4, if_neg hne, M21, if_neg hne, M12, if_neg hne, MA j hne]
    rcases hI.A hj with ⟨b1, -⟩ | ⟨b1, b2, -⟩
    · unfold k_rf; rw [if_pos b1, if_pos b1]
    · rw [a3, if_neg (by omega)]
  have vK : k_vs AD M (sp_K mm) = [.ref qc, .int (mm 10 0 + 1), .int 0, .null] := by
    unfold k_vs
    rw [a4, if_pos rfl, M21, if_pos rfl, M12, if_pos rfl, hI.K, nI_1]
    unfold k_rf
    rw [if_pos rfl]
  have cK : k_ch (M 11 (sp_K mm)) = [.int (nI k), .int 0, .int ff] := by
    unfold k_ch
    rw [M11, if_pos rfl, vk_nI (by omega), vd_nI (by omega), ve_nI (by omega), hf, show (1000 * sp_W mm + 100 * k + 10 * 0 + e) % 1000 / 100 = k by omega, show (1000 * sp_W mm + 100 * k + 10 * 0 + e) % 100 / 10 = 0 by omega, show (1000 * sp_W mm + 100 * k + 10 * 0 + e) % 10 = e by omega]
    rfl
  have rw1 : k_er AD M = k_rw AD (sp_W mm + 1) := by
    funext j
    unfold k_er k_rw
    rw [eW]
  unfold k_n6
  funext a b
  match a with
  | 0 =>
    match b with
    | 0 =>
      rw [k_up_o (by simp), k_up_o (by simp), k_up_o (by simp), k_up_o (by simp), k_up_o (by simp), k_up_s]
      show _ = (some (.inr (5, k_mp AD M)) : Option va_E)
      unfold k_mp
      rw [a0 1 (by decide), a0 2 (by decide), a0 3 (by decide), a0 4 (by decide), a0 5 (by decide), M10]
    | 1 =>
      rw [k_up_s]
      show _ = (some (.inr (0, k_li G AD M)) : Option va_E)
      unfold k_li
      rw [eW, if_neg (by omega), a06, M1, hI.W, nI_1]
    | 2 =>
      rw [k_up_o (by simp), k_up_o (by simp), k_up_o (by simp), k_up_o (by simp), k_up_o (by simp), k_up_o (by simp), k_up_o (by simp), k_up_o (by simp)]
      show (some (.inl (G.2.1, 6, .inl (mm 0))) : Option va_E) = some (.inl (G.2.1, 6, .inl (M 0)))
      rw [M0]
    | 3 =>
      rw [k_up_o (by simp), k_up_o (by simp), k_up_o (by simp), k_up_o (by simp), k_up_o (by simp), k_up_o (by simp), k_up_o (by simp), k_up_o (by simp)]
      show (some (.inl (G.2.1, 3, .inl (mm 15))) : Option va_E) = some (.inl (G.2.1, 3, .inl (M 15)))
      rw [M15]
    | 4 =>
      rw [k_up_o (by simp), k_up_o (by simp), k_up_o (by simp), k_up_o (by simp), k_up_o (by simp), k_up_o (by simp), k_up_o (by simp), k_up_o (by simp)]
      show (some (.inl (G.2.1, 3, .inl (mm 16))) : Option va_E) = some (.inl (G.2.1, 3, .inl (M 16)))
      rw [M16]
    | 5 =>
      rw [k_up_o (by simp), k_up_o (by simp), k_up_o (by simp), k_up_o (by simp), k_up_o (by simp), k_up_o (by simp), k_up_o (by simp), k_up_o (by simp)]
      show (some (.inl (G.2.2.1, 341, .inr (.inr (.inr (.inr (k_tr ad mm)))))) : Option va_E) = some (.inl (G.2.2.1, 341, .inr (.inr (.inr (.inr (k_tr AD M))))))
      have e1 : k_tr AD M = k_tr ad mm := by
        funext t
        unfold k_tr
        rw [M13, a6]
      rw [e1]
    | 6 =>
      rw [k_up_o (by simp), k_up_s]
      show _ = (if sp_W M = 0 then none else some (.inl (G.2.2.2.1, k_cp (sp_W M), .inr (.inr (.inr (.inr (k_er AD M)))))) : Option va_E)
      rw [rw1, eW, if_neg (by omega)]
    | n + 7 =>
      rw [k_up_o (by simp), k_up_o (by simp), k_up_o (by simp), k_up_o (by simp), k_up_o (by simp), k_up_o (by simp), k_up_o (by simp), k_up_o (by simp)]
      show (none : Option va_E) = none
      rfl
  | 1 =>
    show _ = (if b < sp_W M then some (.inr (4, k_wy AD M b)) else none : Option va_E)
    rw [eW, k_up_o (by simp), k_up_o (by simp)]
    by_cases h : b = sp_W mm
    · subst h
      rw [k_up_s, if_pos (by omega), wW]
    · rw [k_up_o (fun z => h z.2), k_up_o (by simp), k_up_o (by simp), k_up_o (by simp), k_up_o (by simp), k_up_o (fun z => h z.2)]
      show (if b < sp_W mm then some (.inr (4, k_wy ad mm b)) else none : Option va_E) = _
      by_cases hb : b < sp_W mm
      · rw [if_pos hb, if_pos (by omega), w1 b hb]
      · rw [if_neg hb, if_neg (by omega)]
  | 2 =>
    show _ = (if b < sp_W M then some (.inl (G.2.1, 9, .inl (k_db M b))) else none : Option va_E)
    rw [eW, k_up_o (by simp), k_up_o (by simp), k_up_o (by simp)]
    by_cases h : b = sp_W mm
    · subst h
      have e1 : k_db M (sp_W mm) = fun j => if j < 9 then -1 else 0 := by
        funext j
        unfold k_db
        rw [M20]
        by_cases hj : j < 9
        · rw [if_pos hj, if_pos hj, z20 j hj]
        · rw [if_neg hj, if_neg hj]
      rw [k_up_s, if_pos (by omega), e1]
    · rw [k_up_o (fun z => h z.2), k_up_o (by simp), k_up_o (by simp), k_up_o (by simp), k_up_o (by simp)]
      show (if b < sp_W mm then some (.inl (G.2.1, 9, .inl (k_db mm b))) else none : Option va_E) = _
      have e1 : k_db M b = k_db mm b := by unfold k_db; rw [M20]
      by_cases hb : b < sp_W mm
      · rw [if_pos hb, if_pos (by omega), e1]
      · rw [if_neg hb, if_neg (by omega)]
  | 3 =>
    show _ = (if b < sp_K M then some (.inr (3, k_vs AD M b)) else none : Option va_E)
    rw [eK, k_up_o (by simp), k_up_o (by simp), k_up_o (by simp), k_up_o (by simp)]
    by_cases h : b = sp_K mm
    · subst h
      rw [k_up_s, if_pos (by omega), vK]
    · rw [k_up_o (fun z => h z.2), k_up_o (by simp), k_up_o (by simp), k_up_o (by simp)]
      show (if b < sp_K mm then some (.inr (3, k_vs ad mm b)) else none : Option va_E) = _
      by_cases hb : b < sp_K mm
      · rw [if_pos hb, if_pos (by omega), v1 b hb]
      · rw [if_neg hb, if_neg (by omega)]
  | 4 =>
    show _ = (if b < sp_K M then some (.inr (1, k_ch (M 11 b))) else none : Option va_E)
    rw [eK, k_up_o (by simp), k_up_o (by simp), k_up_o (by simp), k_up_o (by simp), k_up_o (by simp), k_up_o (by simp)]
    by_cases h : b = sp_K mm
    · subst h
      rw [k_up_s, if_pos (by omega), cK]
    · rw [k_up_o (fun z => h z.2), k_up_o (by simp)]
      show (if b < sp_K mm then some (.inr (1, k_ch (mm 11 b))) else none : Option va_E) = _
      rw [M11, if_neg h]
      by_cases hb : b < sp_K mm
      · rw [if_pos hb, if_pos (by omega)]
      · rw [if_neg hb, if_neg (by omega)]
  | 5 =>
    rw [k_up_o (by simp), k_up_o (by simp), k_up_o (by simp), k_up_o (by simp), k_up_o (by simp), k_up_o (by simp), k_up_o (by simp), k_up_o (by simp)]
    show (if b < sp_W mm ∧ ¬ mm 9 b = -1 then some (.inr (1, k_wc (mm 9 b))) else none : Option va_E) = if b < sp_W M ∧ ¬ M 9 b = -1 then some (.inr (1, k_wc (M 9 b))) else none
    rw [eW, M9]
    by_cases h : b = sp_W mm
    · subst h
      rw [if_neg (fun z => absurd z.1 (by omega)), if_pos rfl, if_neg (fun z => z.2 rfl)]
    · rw [if_neg h]
      by_cases hb : b < sp_W mm ∧ ¬ mm 9 b = -1
      · rw [if_pos hb, if_pos ⟨by omega, hb.2⟩]
      · rw [if_neg hb, if_neg (fun z => hb ⟨by omega, z.2⟩)]
  | 6 =>
    rw [k_up_o (by simp), k_up_o (by simp), k_up_o (by simp), k_up_o (by simp), k_up_o (by simp), k_up_o (by simp), k_up_o (by simp), k_up_o (by simp)]
    show (if b < 341 ∧ ¬ mm 13 b = 0 then some (.inr (2, k_tl mm b)) else none : Option va_E) = if b < 341 ∧ ¬ M 13 b = 0 then some (.inr (2, k_tl M b)) else none
    have e1 : k_tl M b = k_tl mm b := by unfold k_tl; rw [M13, M14]
    rw [e1, M13]
  | n + 7 =>
    rw [k_up_o (by simp), k_up_o (by simp), k_up_o (by simp), k_up_o (by simp), k_up_o (by simp), k_up_o (by simp), k_up_o (by simp), k_up_o (by simp)]
    show (none : Option va_E) = none
    rfl
