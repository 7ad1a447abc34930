theorem lim_eq (t : Int32) : (if 0 < (if t < 100 then t else 100) then (if t < 100 then t else 100) else 0) = sp_lim t := by
  unfold sp_lim
  by_cases h1 : t < 0
  · have h2 : t < 100 := by
      rw [Int32.lt_iff_toInt_lt] at h1 ⊢
      have a1 : (0 : Int32).toInt = 0 := by decide
      have a2 : (100 : Int32).toInt = 100 := by decide
      omega
    rw [if_pos h2, if_pos h1, if_neg (fun q => by rw [Int32.lt_iff_toInt_lt] at h1 q; omega)]
  · rw [if_neg h1]
    by_cases h2 : 100 < t
    · have h3 : ¬ t < 100 := fun q => by rw [Int32.lt_iff_toInt_lt] at h2 q; omega
      have e : (if t < 100 then t else 100) = 100 := if_neg h3
      rw [if_pos h2, e]
      decide
    · rw [if_neg h2]
      have h3 : (if t < 100 then t else 100) = t := by
        by_cases q : t < 100
        · rw [if_pos q]
        · rw [if_neg q]; exact Int32.le_antisymm (bo_lt q) (bo_lt h2)
      rw [h3]
      by_cases q : 0 < t
      · rw [if_pos q]
      · rw [if_neg q]; exact Int32.le_antisymm (bo_lt h1) (bo_lt q)
theorem fill_0 {G : k_G} {ct : k_Ct} {k i n : Nat} {v : Int32} {f : Nat → Int32} (he : ct k i = some (.inl (G.2.1, n, .inl f))) : k_up ct k i (.inl (G.2.1, n, .inl (fun j => if j < 0 then v else f j))) = ct := by
  refine up_of ?_ fun a b _ => rfl
  rw [he]
  have e : (fun j => if j < 0 then v else f j) = f := by funext j; exact if_neg (Nat.not_lt_zero j)
  rw [e]
theorem fill_s {t : Nat} {v : Int32} {f : Nat → Int32} : upd (fun j => if j < t then v else f j) t v = fun j => if j < t + 1 then v else f j := by
  funext j
  show (if j = t then v else if j < t then v else f j) = _
  by_cases h : j = t
  · rw [if_pos h, if_pos (by omega)]
  · rw [if_neg h]
    by_cases h2 : j < t
    · rw [if_pos h2, if_pos (by omega)]
    · rw [if_neg h2, if_neg (by omega)]
/-- the doubts while a sighting is kept: gone through up to i -/
def sp_kp (mm : q_Mem) (w d q i : Nat) : q_Mem := fun k j => if k = 20 ∧ 9 * w ≤ j ∧ j < 9 * w + i ∧ ¬ (j - 9 * w) % 3 = d ∧ nI q < mm 20 j then -1 else mm k j
section
variable {mm : q_Mem} {w c d q i : Nat}
theorem kp_0 : sp_kp mm w d q 0 = mm := by
  funext k j
  exact if_neg (fun z => by omega)
theorem kp_rd : sp_kp mm w d q i 20 (9 * w + i) = mm 20 (9 * w + i) := if_neg (fun z => by omega)
theorem kp_y (h1 : ¬ i % 3 = d) (h2 : nI q < mm 20 (9 * w + i)) : up2 (sp_kp mm w d q i) 20 (9 * w + i) (-1) = sp_kp mm w d q (i + 1) := by
  funext k j
  unfold up2 sp_kp
  by_cases z : k = 20 ∧ j = 9 * w + i
  · obtain ⟨rfl, rfl⟩ := z
    rw [if_pos ⟨rfl, rfl⟩, if_pos ⟨rfl, by omega, by omega, by rw [Nat.add_sub_cancel_left]; exact h1, h2⟩]
  · rw [if_neg z]
    by_cases y : k = 20 ∧ 9 * w ≤ j ∧ j < 9 * w + i ∧ ¬ (j - 9 * w) % 3 = d ∧ nI q < mm 20 j
    · rw [if_pos y, if_pos ⟨y.1, y.2.1, by omega, y.2.2.2⟩]
    · rw [if_neg y, if_neg (fun x => y ⟨x.1, x.2.1, by have := x.2.2.1; have := x.1; omega, x.2.2.2⟩)]
theorem kp_n (h : ¬ (¬ i % 3 = d ∧ nI q < mm 20 (9 * w + i))) : sp_kp mm w d q i = sp_kp mm w d q (i + 1) := by
  funext k j
  unfold sp_kp
  by_cases y : k = 20 ∧ 9 * w ≤ j ∧ j < 9 * w + i ∧ ¬ (j - 9 * w) % 3 = d ∧ nI q < mm 20 j
  · rw [if_pos y, if_pos ⟨y.1, y.2.1, by omega, y.2.2.2⟩]
  · rw [if_neg y, if_neg (fun x => ?_)]
    by_cases e : j = 9 * w + i
    · subst e
      exact h ⟨by have := x.2.2.2.1; rw [Nat.add_sub_cancel_left] at this; exact this, x.2.2.2.2⟩
    · exact y ⟨x.1, x.2.1, by have := x.2.2.1; omega, x.2.2.2⟩
theorem kp_end (hc : c < 3) (hd : d < 3) : up2 (sp_kp mm w d q 9) 20 (9 * w + (3 * c + d)) (nI q) = sp_keep mm w c d (nI q) := by
  funext k j
  unfold up2 sp_kp sp_keep
  by_cases z : k = 20 ∧ j = 9 * w + (3 * c + d)
  · obtain ⟨rfl, rfl⟩ := z
    rw [if_pos ⟨rfl, rfl⟩, if_pos ⟨rfl, by omega, by omega⟩, if_pos (Nat.add_sub_cancel_left _ _)]
  · rw [if_neg z]
    by_cases y : k = 20 ∧ 9 * w ≤ j ∧ j < 9 * w + 9
    · obtain ⟨rfl, y2, y3⟩ := y
      have hne : ¬ j - 9 * w = 3 * c + d := fun x => z ⟨rfl, by omega⟩
      rw [if_pos (⟨rfl, y2, y3⟩ : 20 = 20 ∧ 9 * w ≤ j ∧ j < 9 * w + 9), if_neg hne]
      by_cases x : ¬ (j - 9 * w) % 3 = d ∧ nI q < mm 20 j
      · rw [if_pos x, if_pos ⟨rfl, y2, y3, x⟩]
      · rw [if_neg x, if_neg (fun v => x v.2.2.2)]
    · rw [if_neg y, if_neg (fun x => y ⟨x.1, x.2.1, x.2.2.1⟩)]
theorem kcu_forg {G : k_G} {ad : k_Ad} (hw : w < sp_W mm) : k_up (k_C G ad mm) 2 w (.inl (G.2.1, 9, .inl (fun j => if j < 9 then -1 else k_db mm w j))) = k_C G ad (sp_forg mm w) := by
  have e : ∀ b, k_db (sp_forg mm w) b = if b = w then (fun j => if j < 9 then -1 else k_db mm w j) else k_db mm b := by
    intro b
    funext j
    by_cases hb : b = w
    · subst hb
      rw [if_pos rfl]
      unfold k_db
      by_cases hj : j < 9
      · rw [if_pos hj, if_pos hj, fg_20 hj, if_pos rfl]
      · rw [if_neg hj, if_neg hj, if_neg hj]
    · rw [if_neg hb]
      unfold k_db
      by_cases hj : j < 9
      · rw [if_pos hj, if_pos hj, fg_20 hj, if_neg hb]
      · rw [if_neg hj, if_neg hj]
  refine up_of ?_ fun a b z => ?_
  · show (if w < sp_W mm then some (.inl (G.2.1, 9, .inl (k_db (sp_forg mm w) w))) else none : Option va_E) = _
    rw [if_pos hw, e, if_pos rfl]
  · match a with
    | 0 => rfl
    | 1 => rfl
    | 2 =>
      show (if b < sp_W mm then some (.inl (G.2.1, 9, .inl (k_db mm b))) else none : Option va_E) = if b < sp_W mm then some (.inl (G.2.1, 9, .inl (k_db (sp_forg mm w) b))) else none
      rw [e, if_neg (fun y => z ⟨rfl, y⟩)]
    | 3 => rfl
    | 4 => rfl
    | 5 => rfl
    | 6 => rfl
    | n + 7 => rfl
end
