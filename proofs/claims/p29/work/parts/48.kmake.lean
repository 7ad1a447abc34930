/-! ===== cells forgotten, cells under another name ===== -/
def k_rm (ct : k_Ct) (k i : Nat) : k_Ct := fun a b => if a = k ∧ b = i then none else ct a b
theorem k_rm_s {ct : k_Ct} {k i : Nat} : k_rm ct k i k i = none := if_pos ⟨rfl, rfl⟩
theorem k_rm_o {ct : k_Ct} {k i a b : Nat} (h : ¬ (a = k ∧ b = i)) : k_rm ct k i a b = ct a b := if_neg h
theorem k_rm_in {ct : k_Ct} {k i a b : Nat} {e : va_E} (h : k_rm ct k i a b = some e) : ct a b = some e := by
  by_cases z : a = k ∧ b = i
  · obtain ⟨rfl, rfl⟩ := z; rw [k_rm_s] at h; cases h
  · rwa [k_rm_o z] at h
theorem k_rmH {G : k_G} {ad : k_Ad} {ct : k_Ct} {H : Heap} (k i : Nat) (h : k_H G ad ct H) : k_H G ad (k_rm ct k i) H := fun a b e he => h a b e (k_rm_in he)
theorem k_rmN {Z : Nat → Prop} {ad : k_Ad} {ct : k_Ct} (k i : Nat) (h : k_N Z ad ct) : k_N Z ad (k_rm ct k i) := ⟨fun a b c d e e2 h1 h2 h3 => h.1 a b c d e e2 (k_rm_in h1) (k_rm_in h2) h3, fun a b e h1 => h.2 a b e (k_rm_in h1)⟩
theorem k_mvH {G : k_G} {ad : k_Ad} {ct : k_Ct} {H : Heap} {k i k2 i2 : Nat} {e0 : va_E} (h : k_H G ad ct H) (he : ct k i = some e0) : k_H G (k_ad ad k2 i2 (ad k i)) (k_up (k_rm ct k i) k2 i2 e0) H := by
  intro a b e h1
  by_cases z : a = k2 ∧ b = i2
  · obtain ⟨rfl, rfl⟩ := z
    rw [k_up_s] at h1
    cases h1
    rw [k_ad_s]; exact h k i _ he
  · rw [k_up_o z] at h1
    rw [k_ad_o z]; exact h a b e (k_rm_in h1)
theorem k_mvN {Z : Nat → Prop} {ad : k_Ad} {ct : k_Ct} {k i k2 i2 : Nat} {e0 : va_E} (h : k_N Z ad ct) (he : ct k i = some e0) : k_N Z (k_ad ad k2 i2 (ad k i)) (k_up (k_rm ct k i) k2 i2 e0) := by
  have key : ∀ a b e, ¬ (a = k2 ∧ b = i2) → k_up (k_rm ct k i) k2 i2 e0 a b = some e → ct a b = some e ∧ ¬ (a = k ∧ b = i) := by
    intro a b e z h1
    rw [k_up_o z] at h1
    exact ⟨k_rm_in h1, fun y => by rw [y.1, y.2, k_rm_s] at h1; cases h1⟩
  refine ⟨fun a b c d e e2 h1 h2 h3 => ?_, fun a b e h1 => ?_⟩
  · by_cases z : a = k2 ∧ b = i2
    · by_cases y : c = k2 ∧ d = i2
      · exact ⟨z.1.trans y.1.symm, z.2.trans y.2.symm⟩
      · obtain ⟨g1, g2⟩ := key c d e2 y h2
        rw [z.1, z.2, k_ad_s, k_ad_o y] at h3
        have := h.1 k i c d e0 e2 he g1 h3
        exact absurd ⟨this.1.symm, this.2.symm⟩ g2
    · obtain ⟨g1, g2⟩ := key a b e z h1
      by_cases y : c = k2 ∧ d = i2
      · rw [y.1, y.2, k_ad_s, k_ad_o z] at h3
        exact absurd (h.1 a b k i e e0 g1 he h3) g2
      · obtain ⟨g3, g4⟩ := key c d e2 y h2
        rw [k_ad_o z, k_ad_o y] at h3
        exact h.1 a b c d e e2 g1 g3 h3
  · by_cases z : a = k2 ∧ b = i2
    · rw [z.1, z.2, k_ad_s]; exact h.2 k i e0 he
    · rw [k_ad_o z]; exact h.2 a b e (key a b e z h1).1
/-! ===== a version more, as numbers ===== -/
section
variable {G : k_G} {ad : k_Ad} {mm : q_Mem} {w ca q : Nat} {kk dd ff : Int32}
theorem mk_11 {j : Nat} : sp_make mm w kk dd ff 11 j = if j = sp_K mm then 1000 * nI w + 100 * kk + 10 * dd + ff + 1 else mm 11 j := by
  by_cases h : j = sp_K mm
  · subst h; simp [sp_make, up2]
  · simp [sp_make, up2, h]
theorem mk_12 {j : Nat} : sp_make mm w kk dd ff 12 j = if j = sp_K mm then (if mm 7 w = 0 then -1 else mm 8 w) else mm 12 j := by
  by_cases h : j = sp_K mm
  · subst h; simp [sp_make, up2]
  · simp [sp_make, up2, h]
theorem mk_21 {j : Nat} : sp_make mm w kk dd ff 21 j = if j = sp_K mm then (if mm 7 w = 0 then 0 else mm 21 (sp_L mm w) + 1) else mm 21 j := by
  show (if 21 = 21 ∧ j = sp_K mm then _ else _) = _
  by_cases h : j = sp_K mm
  · rw [if_pos h, if_pos ⟨rfl, h⟩]
  · rw [if_neg h, if_neg (fun z => h z.2)]; simp [up2]
theorem mk_8 {b : Nat} : sp_make mm w kk dd ff 8 b = if b = w then mm 10 0 else mm 8 b := by
  by_cases h : b = w
  · subst h; simp [sp_make, up2]
  · simp [sp_make, up2, h]
theorem mk_9 {b : Nat} : sp_make mm w kk dd ff 9 b = if b = w then -1 else mm 9 b := by
  by_cases h : b = w
  · subst h; simp [sp_make, up2]
  · simp [sp_make, up2, h]
theorem mk_10 : sp_make mm w kk dd ff 10 0 = mm 10 0 + 1 := by simp [sp_make, up2]
theorem mk_7 {b : Nat} : sp_make mm w kk dd ff 7 b = if b = w then mm 7 w + 1 else mm 7 b := by
  by_cases h : b = w
  · subst h; simp [sp_make, up2]
  · simp [sp_make, up2, h]
theorem mk_o {k : Nat} (h : k ≠ 11 ∧ k ≠ 12 ∧ k ≠ 8 ∧ k ≠ 7 ∧ k ≠ 9 ∧ k ≠ 10 ∧ k ≠ 21) : sp_make mm w kk dd ff k = mm k := by
  obtain ⟨a, b, c, d, e, f, g⟩ := h
  unfold sp_make
  rw [up2_k g, up2_k f, up2_k e, up2_k d, up2_k c, up2_k b, up2_k a]
theorem mk_K (hI : Inv mm) : sp_K (sp_make mm w kk dd ff) = sp_K mm + 1 := by
  have := hI.K512
  unfold sp_K
  rw [mk_10, hI.K, nI_1, nI_clamp (by omega), nI_clamp (by omega)]
theorem mk_W : sp_W (sp_make mm w kk dd ff) = sp_W mm := by unfold sp_W; rw [mk_o (by decide)]
theorem mk_L {b : Nat} : sp_L (sp_make mm w kk dd ff) b = if b = w then sp_K mm else sp_L mm b := by
  unfold sp_L
  rw [mk_8]
  by_cases h : b = w
  · rw [if_pos h, if_pos h]; rfl
  · rw [if_neg h, if_neg h]
theorem mk_A {j : Nat} (h : j ≠ sp_K mm) : sp_A (sp_make mm w kk dd ff) j = sp_A mm j := by
  unfold sp_A; rw [mk_12, if_neg h]
theorem mk_AK (h7 : ¬ mm 7 w = 0) : sp_A (sp_make mm w kk dd ff) (sp_K mm) = sp_L mm w := by
  unfold sp_A sp_L; rw [mk_12, if_pos rfl, if_neg h7]
/-- what is left when a way has got a version more -/
theorem kmake (hI : Inv mm) (hw : w < sp_W mm) (hv1 : sp_vk (1000 * nI w + 100 * kk + 10 * dd + ff + 1) = kk) (hv2 : sp_vd (1000 * nI w + 100 * kk + 10 * dd + ff + 1) = dd) (hv3 : sp_ve (1000 * nI w + 100 * kk + 10 * dd + ff + 1) = ff) :
    k_up (k_up (k_up (k_up (k_rm (k_C G ad mm) 5 w) 4 (sp_K mm) (.inr (1, [.int kk, .int dd, .int ff]))) 0 0 (.inr (5, [.ref (ad 0 1), .ref (ad 0 2), .ref (ad 0 3), .ref (ad 0 4), .ref (ad 0 5), .int (mm 10 0 + 1)]))) 3 (sp_K mm) (.inr (3, [.ref ca, .int (mm 10 0 + 1), .int (mm 21 (sp_L mm w) + 1), .ref (ad 3 (sp_L mm w))]))) 1 w (.inr (4, [.int (mm 2 w), .int (mm 3 w), .int (mm 4 w), .int (mm 5 w), .int (mm 6 w), .ref q, .null, .ref (ad 2 w)])) =
    k_C G (k_ad (k_ad ad 4 (sp_K mm) ca) 3 (sp_K mm) q) (sp_make mm w kk dd ff) := by
  have hK5 := hI.K512
  have hLK := hI.LK hw
  obtain ⟨n, hn, -, h7⟩ := hI.N hw
  have h70 : ¬ mm 7 w = 0 := by rw [h7]; exact nI_ne0 (by omega) (by omega)
  generalize hAD : k_ad (k_ad ad 4 (sp_K mm) ca) 3 (sp_K mm) q = ad2
  have a3 : ∀ b, b ≠ sp_K mm → ad2 3 b = ad 3 b := fun b hb => by rw [← hAD, k_ad_o (fun z => hb z.2), k_ad_o (fun z => absurd z.1 (by decide))]
  have a3K : ad2 3 (sp_K mm) = q := by rw [← hAD, k_ad_s]
  have a4K : ad2 4 (sp_K mm) = ca := by rw [← hAD, k_ad_o (fun z => absurd z.1 (by decide)), k_ad_s]
  have a4 : ∀ b, b ≠ sp_K mm → ad2 4 b = ad 4 b := fun b hb => by rw [← hAD, k_ad_o (fun z => absurd z.1 (by decide)), k_ad_o (fun z => hb z.2)]
  have ao : ∀ a b, a ≠ 3 → a ≠ 4 → ad2 a b = ad a b := fun a b h3 h4 => by rw [← hAD, k_ad_o (fun z => h3 z.1), k_ad_o (fun z => h4 z.1)]
  have r0 : k_mp ad2 (sp_make mm w kk dd ff) = [.ref (ad 0 1), .ref (ad 0 2), .ref (ad 0 3), .ref (ad 0 4), .ref (ad 0 5), .int (mm 10 0 + 1)] := by
    unfold k_mp
    rw [mk_10, ao 0 1 (by decide) (by decide), ao 0 2 (by decide) (by decide), ao 0 3 (by decide) (by decide), ao 0 4 (by decide) (by decide), ao 0 5 (by decide) (by decide)]
  have r1 : ∀ b, b < sp_W mm → b ≠ w → k_wy ad2 (sp_make mm w kk dd ff) b = k_wy ad mm b := fun b hb hbw => by
    have hLb := hI.LK hb
    unfold k_wy
    rw [mk_L, if_neg hbw, mk_9, if_neg hbw, a3 _ (by omega), ao 5 b (by decide) (by decide), ao 2 b (by decide) (by decide), mk_o (k := 2) (by decide), mk_o (k := 3) (by decide), mk_o (k := 4) (by decide), mk_o (k := 5) (by decide), mk_o (k := 6) (by decide)]
  have r1w : k_wy ad2 (sp_make mm w kk dd ff) w = [.int (mm 2 w), .int (mm 3 w), .int (mm 4 w), .int (mm 5 w), .int (mm 6 w), .ref q, .null, .ref (ad 2 w)] := by
    unfold k_wy
    rw [mk_L, if_pos rfl, a3K, mk_9, if_pos rfl, ao 2 w (by decide) (by decide), mk_o (k := 2) (by decide), mk_o (k := 3) (by decide), mk_o (k := 4) (by decide), mk_o (k := 5) (by decide), mk_o (k := 6) (by decide)]
    unfold k_rf
    rw [if_pos rfl]
  have r3 : ∀ j, j < sp_K mm → k_vs ad2 (sp_make mm w kk dd ff) j = k_vs ad mm j := fun j hj => by
    have hne : j ≠ sp_K mm := by omega
    unfold k_vs
    rw [a4 j hne, mk_21, if_neg hne, mk_12, if_neg hne, mk_A hne]
    rcases hI.A hj with ⟨b1, -⟩ | ⟨b1, b2, -⟩
    · unfold k_rf; rw [if_pos b1, if_pos b1]
    · rw [a3 _ (by omega)]
  have r3K : k_vs ad2 (sp_make mm w kk dd ff) (sp_K mm) = [.ref ca, .int (mm 10 0 + 1), .int (mm 21 (sp_L mm w) + 1), .ref (ad 3 (sp_L mm w))] := by
    unfold k_vs
    rw [a4K, mk_21, if_pos rfl, if_neg h70, mk_12, if_pos rfl, if_neg h70, mk_AK h70, a3 _ (by omega), hI.K, nI_1]
    unfold k_rf
    rw [if_neg (by rw [hI.L hw]; exact nI_nm1 (by omega))]
  have r4K : k_ch (sp_make mm w kk dd ff 11 (sp_K mm)) = [.int kk, .int dd, .int ff] := by
    unfold k_ch
    rw [mk_11, if_pos rfl, hv1, hv2, hv3]
  funext a b
  match a with
  | 0 =>
    match b with
    | 0 =>
      rw [k_up_o (by simp), k_up_o (by simp), k_up_s]
      show _ = (some (.inr (5, k_mp ad2 (sp_make mm w kk dd ff))) : Option va_E)
      rw [r0]
    | 1 =>
      rw [k_up_o (by simp), k_up_o (by simp), k_up_o (by simp), k_up_o (by simp), k_rm_o (by simp)]
      show (some (.inr (0, k_li G ad mm)) : Option va_E) = some (.inr (0, k_li G ad2 (sp_make mm w kk dd ff)))
      unfold k_li
      rw [mk_W, mk_o (k := 1) (by decide), ao 0 6 (by decide) (by decide)]
    | 2 =>
      rw [k_up_o (by simp), k_up_o (by simp), k_up_o (by simp), k_up_o (by simp), k_rm_o (by simp)]
      show (some (.inl (G.2.1, 6, .inl (mm 0))) : Option va_E) = some (.inl (G.2.1, 6, .inl (sp_make mm w kk dd ff 0)))
      rw [mk_o (k := 0) (by decide)]
    | 3 =>
      rw [k_up_o (by simp), k_up_o (by simp), k_up_o (by simp), k_up_o (by simp), k_rm_o (by simp)]
      show (some (.inl (G.2.1, 3, .inl (mm 15))) : Option va_E) = some (.inl (G.2.1, 3, .inl (sp_make mm w kk dd ff 15)))
      rw [mk_o (k := 15) (by decide)]
    | 4 =>
      rw [k_up_o (by simp), k_up_o (by simp), k_up_o (by simp), k_up_o (by simp), k_rm_o (by simp)]
      show (some (.inl (G.2.1, 3, .inl (mm 16))) : Option va_E) = some (.inl (G.2.1, 3, .inl (sp_make mm w kk dd ff 16)))
      rw [mk_o (k := 16) (by decide)]
    | 5 =>
      rw [k_up_o (by simp), k_up_o (by simp), k_up_o (by simp), k_up_o (by simp), k_rm_o (by simp)]
      show (some (.inl (G.2.2.1, 341, .inr (.inr (.inr (.inr (k_tr ad mm)))))) : Option va_E) = some (.inl (G.2.2.1, 341, .inr (.inr (.inr (.inr (k_tr ad2 (sp_make mm w kk dd ff)))))))
      have e : k_tr ad2 (sp_make mm w kk dd ff) = k_tr ad mm := by
        funext t
        unfold k_tr
        rw [mk_o (k := 13) (by decide), ao 6 t (by decide) (by decide)]
      rw [e]
    | 6 =>
      rw [k_up_o (by simp), k_up_o (by simp), k_up_o (by simp), k_up_o (by simp), k_rm_o (by simp)]
      show (if sp_W mm = 0 then none else some (.inl (G.2.2.2.1, k_cp (sp_W mm), .inr (.inr (.inr (.inr (k_er ad mm)))))) : Option va_E) = if sp_W (sp_make mm w kk dd ff) = 0 then none else some (.inl (G.2.2.2.1, k_cp (sp_W (sp_make mm w kk dd ff)), .inr (.inr (.inr (.inr (k_er ad2 (sp_make mm w kk dd ff)))))))
      have e : k_er ad2 (sp_make mm w kk dd ff) = k_er ad mm := by
        funext t
        unfold k_er
        rw [mk_W, ao 1 t (by decide) (by decide)]
      rw [e, mk_W]
    | n + 7 =>
      rw [k_up_o (by simp), k_up_o (by simp), k_up_o (by simp), k_up_o (by simp), k_rm_o (by simp)]
      show (none : Option va_E) = none
      rfl
  | 1 =>
    show _ = (if b < sp_W (sp_make mm w kk dd ff) then some (.inr (4, k_wy ad2 (sp_make mm w kk dd ff) b)) else none : Option va_E)
    rw [mk_W]
    by_cases h : b = w
    · subst h
      rw [k_up_s, if_pos hw, r1w]
    · rw [k_up_o (fun z => h z.2), k_up_o (by simp), k_up_o (by simp), k_up_o (by simp), k_rm_o (by simp)]
      show (if b < sp_W mm then some (.inr (4, k_wy ad mm b)) else none : Option va_E) = _
      by_cases hb : b < sp_W mm
      · rw [if_pos hb, if_pos hb, r1 b hb h]
      · rw [if_neg hb, if_neg hb]
  | 2 =>
    rw [k_up_o (by simp), k_up_o (by simp), k_up_o (by simp), k_up_o (by simp), k_rm_o (by simp)]
    show (if b < sp_W mm then some (.inl (G.2.1, 9, .inl (k_db mm b))) else none : Option va_E) = if b < sp_W (sp_make mm w kk dd ff) then some (.inl (G.2.1, 9, .inl (k_db (sp_make mm w kk dd ff) b))) else none
    have e : k_db (sp_make mm w kk dd ff) b = k_db mm b := by unfold k_db; rw [mk_o (k := 20) (by decide)]
    rw [e, mk_W]
  | 3 =>
    show _ = (if b < sp_K (sp_make mm w kk dd ff) then some (.inr (3, k_vs ad2 (sp_make mm w kk dd ff) b)) else none : Option va_E)
    rw [mk_K hI]
    by_cases h : b = sp_K mm
    · subst h
      rw [k_up_o (by simp), k_up_s, if_pos (by omega), r3K]
    · rw [k_up_o (by simp), k_up_o (fun z => h z.2), k_up_o (by simp), k_up_o (by simp), k_rm_o (by simp)]
      show (if b < sp_K mm then some (.inr (3, k_vs ad mm b)) else none : Option va_E) = _
      by_cases hb : b < sp_K mm
      · rw [if_pos hb, if_pos (by omega), r3 b hb]
      · rw [if_neg hb, if_neg (by omega)]
  | 4 =>
    show _ = (if b < sp_K (sp_make mm w kk dd ff) then some (.inr (1, k_ch (sp_make mm w kk dd ff 11 b))) else none : Option va_E)
    rw [mk_K hI]
    by_cases h : b = sp_K mm
    · subst h
      rw [k_up_o (by simp), k_up_o (by simp), k_up_o (by simp), k_up_s, if_pos (by omega), r4K]
    · rw [k_up_o (by simp), k_up_o (by simp), k_up_o (by simp), k_up_o (fun z => h z.2), k_rm_o (by simp)]
      show (if b < sp_K mm then some (.inr (1, k_ch (mm 11 b))) else none : Option va_E) = _
      rw [mk_11, if_neg h]
      by_cases hb : b < sp_K mm
      · rw [if_pos hb, if_pos (by omega)]
      · rw [if_neg hb, if_neg (by omega)]
  | 5 =>
    show _ = (if b < sp_W (sp_make mm w kk dd ff) ∧ ¬ sp_make mm w kk dd ff 9 b = -1 then some (.inr (1, k_wc (sp_make mm w kk dd ff 9 b))) else none : Option va_E)
    rw [mk_W, mk_9]
    rw [k_up_o (by simp), k_up_o (by simp), k_up_o (by simp), k_up_o (by simp)]
    by_cases h : b = w
    · subst h
      rw [k_rm_s, if_pos rfl, if_neg (fun z => z.2 rfl)]
    · rw [k_rm_o (fun z => h z.2), if_neg h]
      rfl
  | 6 =>
    rw [k_up_o (by simp), k_up_o (by simp), k_up_o (by simp), k_up_o (by simp), k_rm_o (by simp)]
    show (if b < 341 ∧ ¬ mm 13 b = 0 then some (.inr (2, k_tl mm b)) else none : Option va_E) = if b < 341 ∧ ¬ sp_make mm w kk dd ff 13 b = 0 then some (.inr (2, k_tl (sp_make mm w kk dd ff) b)) else none
    have e : k_tl (sp_make mm w kk dd ff) b = k_tl mm b := by unfold k_tl; rw [mk_o (k := 13) (by decide), mk_o (k := 14) (by decide)]
    rw [e, mk_o (k := 13) (by decide)]
  | n + 7 =>
    rw [k_up_o (by simp), k_up_o (by simp), k_up_o (by simp), k_up_o (by simp), k_rm_o (by simp)]
    show (none : Option va_E) = none
    rfl
end
