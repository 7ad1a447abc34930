/-! ===== one cell written ===== -/
theorem k_upd {G : k_G} {ad : k_Ad} {ct : k_Ct} {Z : Nat → Prop} {H H1 : Heap} {k i : Nat} {e0 e1 : va_E} (hM : k_H G ad ct H) (hN : k_N Z ad ct) (he : ct k i = some e0) (h1 : va_at G.1 vwCl (ad k i, e1) H1) (oq : ∀ q : Nat, q ≠ ad k i → H1[q]? = H[q]?) : k_H G ad (k_up ct k i e1) H1 := by
  intro a b e h
  unfold k_up at h
  by_cases z : a = k ∧ b = i
  · rw [if_pos z] at h
    obtain ⟨rfl, rfl⟩ := z
    cases h
    exact h1
  · rw [if_neg z] at h
    exact (hM a b e h).kept (oq _ (fun y => z (hN.1 a b k i e e0 h he y)))
theorem k_updN {ad : k_Ad} {ct : k_Ct} {Z : Nat → Prop} {k i : Nat} {e0 e1 : va_E} (hN : k_N Z ad ct) (he : ct k i = some e0) : k_N Z ad (k_up ct k i e1) := by
  have key : ∀ a b e, k_up ct k i e1 a b = some e → ∃ e2, ct a b = some e2 := by
    intro a b e h
    unfold k_up at h
    by_cases z : a = k ∧ b = i
    · obtain ⟨rfl, rfl⟩ := z; exact ⟨e0, he⟩
    · rw [if_neg z] at h; exact ⟨e, h⟩
  refine ⟨fun a b c d e e2 h1 h2 h3 => ?_, fun a b e h => ?_⟩
  · obtain ⟨x, hx⟩ := key a b e h1
    obtain ⟨y, hy⟩ := key c d e2 h2
    exact hN.1 a b c d x y hx hy h3
  · obtain ⟨x, hx⟩ := key a b e h
    exact hN.2 a b x hx
section
variable {p : Program} {l : Launch} {e : Env} {R : Room} {s : State} {m : MethodId} {args : Array Value} {below : List Frame} {meth : Method} {c : Code} {H : Heap} {locs : List Loc} {cells slots : Nat} {Q : State → Prop}
variable {cc : ByteArray} {pc nL : Nat} {ls : Array Slot} {rest st0 : List Value} {H0 : Heap} {own : String} {G : k_G} {Z : Nat → Prop} {ad : k_Ad} {ct : k_Ct}
theorem k_put (hF : CallFix p m c cc nL s args wsL_law own) (hK : va_K G.1 vwCl (k_ty G) s) (hM : k_H G ad ct H) (hN : k_N Z ad ct) (hS : va_S Z H0 H locs) {idx ci N : Nat} {C ref : String} {T : u_T} {fs : List Value} (K i : Nat) (he : ct K i = some (.inr (ci, fs))) (hc : vwCl[ci]? = some (C, T, N)) (hin : ∀ w ∈ u_ws C T N, w ∈ wsL_law) (ty0 : Nat → FieldType) (hty : ∀ k, k < N → parseFieldDescriptor (T k).2.2.1 = some (ty0 k)) (hnm : ∀ a, a < N → ∀ b, b < N → a ≠ b → (T a).2.1 ≠ (T b).2.1)
    (k : Nat) (hk : k < N) (hT : (T k).1 = ref) (hlink : Cond.fieldLink own idx ref (T k).2.1 (T k).2.2.1 ∈ wsL_law) (hfin : (T k).2.2.2 = false) {v : Value} (hn : narrow (ty0 k) v = v) (hfit : fits (ty0 k) v = true) (hl : k < fs.length) (hdg : decode cc pc = .ok (.putfield idx, 3))
    (kk : ∀ (H1 : Heap) (locs1 : List Loc), k_H G ad (k_up ct K i (.inr (ci, fs.set k v))) H1 → k_N Z ad (k_up ct K i (.inr (ci, fs.set k v))) → va_S Z H0 H1 locs1 → W p l e R s m args below meth c H1 locs1 cells slots Q (F0 m (pc + 3) ls rest)) : W p l e R s m args below meth c H locs cells slots Q (F0 m pc ls (v :: .ref (ad K i) :: rest)) :=
  g_put hF hK (hM K i _ he) hc hin ty0 hty hnm k hk hT hlink hfin hn hfit hl hdg fun H1 j h1 z oq => kk H1 _ (k_upd hM hN he h1 oq) (k_updN hN he) (hS.put z oq (hN.2 K i _ he))
theorem k_ast (hF : CallFix p m c cc nL s args wsL_law own) (hK : va_K G.1 vwCl (k_ty G) s) (hM : k_H G ad ct H) (hN : k_N Z ad ct) (hS : va_S Z H0 H locs) (K j : Nat) {n i : Nat} {f : Nat → Int32} (he : ct K j = some (.inl (G.2.1, n, .inl f))) {x v : Int32} (hx : x = nI i) (hi : i < n) (hn : n < 2 ^ 31) (hdg : decode cc pc = .ok (.iastore, 1))
    (kk : ∀ (H1 : Heap) (locs1 : List Loc), k_H G ad (k_up ct K j (.inl (G.2.1, n, .inl (upd f i v)))) H1 → k_N Z ad (k_up ct K j (.inl (G.2.1, n, .inl (upd f i v)))) → va_S Z H0 H1 locs1 → W p l e R s m args below meth c H1 locs1 cells slots Q (F0 m (pc + 1) ls rest)) : W p l e R s m args below meth c H locs cells slots Q (F0 m pc ls (.int v :: .int x :: .ref (ad K j) :: rest)) :=
  g_ast (t0 := 0) hF hK (hM K j _ he) rfl hx hi hn hdg fun H1 q h1 z oq => kk H1 _ (k_upd hM hN he h1 oq) (k_updN hN he) (hS.put z oq (hN.2 K j _ he))
end
/-! ===== what is written, as numbers ===== -/
section
variable {G : k_G} {ad : k_Ad} {mm : q_Mem} {i w t : Nat} {v : Int32}
theorem kc_19 : k_C G ad (up2 mm 19 0 v) = k_C G ad mm := rfl
theorem up_of {c1 c2 : k_Ct} {k i : Nat} {e : va_E} (h1 : c2 k i = some e) (h2 : ∀ a b, ¬ (a = k ∧ b = i) → c1 a b = c2 a b) : k_up c1 k i e = c2 := by
  funext a b
  unfold k_up
  by_cases z : a = k ∧ b = i
  · obtain ⟨rfl, rfl⟩ := z; rw [if_pos ⟨rfl, rfl⟩]; exact h1.symm
  · rw [if_neg z]; exact h2 a b z
theorem kcu_trust : k_up (k_C G ad mm) 0 2 (.inl (G.2.1, 6, .inl (upd (mm 0) i v))) = k_C G ad (up2 mm 0 i v) := by
  refine up_of ?_ fun a b z => ?_
  · show some _ = some _; rw [up2_row]
  · match a with
    | 0 => match b with
      | 0 => rfl
      | 1 => rfl
      | 2 => exact absurd ⟨rfl, rfl⟩ z
      | 3 => rfl
      | 4 => rfl
      | 5 => rfl
      | 6 => rfl
      | n + 7 => rfl
    | 1 => rfl
    | 2 => rfl
    | 3 => rfl
    | 4 => rfl
    | 5 => rfl
    | 6 => rfl
    | n + 7 => rfl
theorem kcu_carX : k_up (k_C G ad mm) 0 3 (.inl (G.2.1, 3, .inl (upd (mm 15) i v))) = k_C G ad (up2 mm 15 i v) := by
  refine up_of ?_ fun a b z => ?_
  · show some _ = some _; rw [up2_row]
  · match a with
    | 0 => match b with
      | 0 => rfl
      | 1 => rfl
      | 2 => rfl
      | 3 => exact absurd ⟨rfl, rfl⟩ z
      | 4 => rfl
      | 5 => rfl
      | 6 => rfl
      | n + 7 => rfl
    | 1 => rfl
    | 2 => rfl
    | 3 => rfl
    | 4 => rfl
    | 5 => rfl
    | 6 => rfl
    | n + 7 => rfl
theorem kcu_carY : k_up (k_C G ad mm) 0 4 (.inl (G.2.1, 3, .inl (upd (mm 16) i v))) = k_C G ad (up2 mm 16 i v) := by
  refine up_of ?_ fun a b z => ?_
  · show some _ = some _; rw [up2_row]
  · match a with
    | 0 => match b with
      | 0 => rfl
      | 1 => rfl
      | 2 => rfl
      | 3 => rfl
      | 4 => exact absurd ⟨rfl, rfl⟩ z
      | 5 => rfl
      | 6 => rfl
      | n + 7 => rfl
    | 1 => rfl
    | 2 => rfl
    | 3 => rfl
    | 4 => rfl
    | 5 => rfl
    | 6 => rfl
    | n + 7 => rfl
theorem kcu_guard (hw : w < sp_W mm) : k_up (k_C G ad mm) 1 w (.inr (4, (k_wy ad mm w).set 4 (.int v))) = k_C G ad (up2 mm 6 w v) := by
  refine up_of ?_ fun a b z => ?_
  · show (if w < sp_W mm then _ else _) = _
    rw [if_pos hw]
    show some (Sum.inr (4, [_, _, _, _, Value.int (up2 mm 6 w v 6 w), _, _, _])) = _
    rw [up2_s]; rfl
  · match a with
    | 0 => rfl
    | 1 =>
      show (if b < sp_W mm then some (Sum.inr (4, k_wy ad mm b)) else none) = if b < sp_W mm then some (Sum.inr (4, [_, _, _, _, Value.int (up2 mm 6 w v 6 b), _, _, _])) else none
      rw [up2_i (fun y => z ⟨rfl, y⟩)]; rfl
    | 2 => rfl
    | 3 => rfl
    | 4 => rfl
    | 5 => rfl
    | 6 => rfl
    | n + 7 => rfl
theorem kcu_waitN (hw : w < sp_W mm) (hN : mm 9 w = -1) : k_C G ad mm = k_C G ad (up2 mm 9 w (-1)) := by
  have e : up2 mm 9 w (-1) = mm := by
    funext a b
    unfold up2
    by_cases z : a = 9 ∧ b = w
    · obtain ⟨rfl, rfl⟩ := z; rw [if_pos ⟨rfl, rfl⟩, hN]
    · rw [if_neg z]
  rw [e]
theorem kcu_dbt (hw : w < sp_W mm) (hi : i < 9) : k_up (k_C G ad mm) 2 w (.inl (G.2.1, 9, .inl (upd (k_db mm w) i v))) = k_C G ad (up2 mm 20 (9 * w + i) v) := by
  have e : ∀ b, k_db (up2 mm 20 (9 * w + i) v) b = if b = w then upd (k_db mm w) i v else k_db mm b := by
    intro b
    funext j
    unfold k_db
    by_cases hj : j < 9
    · rw [if_pos hj]
      by_cases hb : b = w
      · subst hb
        rw [if_pos rfl]
        by_cases h : j = i
        · subst h
          rw [up2_s]
          show v = if j = j then v else _
          rw [if_pos rfl]
        · rw [up2_i (by omega)]
          show _ = if j = i then v else if j < 9 then mm 20 (9 * b + j) else 0
          rw [if_neg h, if_pos hj]
      · rw [if_neg hb, up2_i (by omega)]
        show _ = if j < 9 then mm 20 (9 * b + j) else 0
        rw [if_pos hj]
    · rw [if_neg hj]
      by_cases hb : b = w
      · subst hb
        rw [if_pos rfl]
        show (0 : Int32) = if j = i then v else if j < 9 then mm 20 (9 * b + j) else 0
        rw [if_neg (by omega), if_neg hj]
      · rw [if_neg hb]
        show (0 : Int32) = if j < 9 then mm 20 (9 * b + j) else 0
        rw [if_neg hj]
  refine up_of ?_ fun a b z => ?_
  · show (if w < sp_W mm then some (.inl (G.2.1, 9, .inl (k_db (up2 mm 20 (9 * w + i) v) w))) else none : Option va_E) = _
    rw [if_pos hw, e, if_pos rfl]
  · match a with
    | 0 => rfl
    | 1 => rfl
    | 2 =>
      show (if b < sp_W mm then some (.inl (G.2.1, 9, .inl (k_db mm b))) else none : Option va_E) = if b < sp_W mm then some (.inl (G.2.1, 9, .inl (k_db (up2 mm 20 (9 * w + i) v) b))) else none
      rw [e, if_neg (fun y => z ⟨rfl, y⟩)]
    | 3 => rfl
    | 4 => rfl
    | 5 => rfl
    | 6 => rfl
    | n + 7 => rfl
theorem k_up_s {ct : k_Ct} {k i : Nat} {e : va_E} : k_up ct k i e k i = some e := if_pos ⟨rfl, rfl⟩
theorem k_up_o {ct : k_Ct} {k i a b : Nat} {e : va_E} (h : ¬ (a = k ∧ b = i)) : k_up ct k i e a b = ct a b := if_neg h
theorem k_up_t {ct : k_Ct} {k i : Nat} {e e2 : va_E} : k_up (k_up ct k i e) k i e2 = k_up ct k i e2 := by
  funext a b
  unfold k_up
  by_cases z : a = k ∧ b = i
  · rw [if_pos z, if_pos z]
  · rw [if_neg z, if_neg z, if_neg z]
theorem kcu_stamp (ht : t < 341) (hs : ¬ mm 13 t = 0) (hv : ¬ v = 0) : k_up (k_C G ad mm) 6 t (.inr (2, (k_tl mm t).set 5 (.int (v - 1)))) = k_C G ad (up2 mm 13 t v) := by
  refine up_of ?_ fun a b z => ?_
  · show (if t < 341 ∧ ¬ up2 mm 13 t v 13 t = 0 then some (Sum.inr (2, [_, _, _, _, _, Value.int (up2 mm 13 t v 13 t - 1), _])) else none) = _
    rw [up2_s, if_pos ⟨ht, hv⟩]; rfl
  · match a with
    | 0 => match b with
      | 0 => rfl
      | 1 => rfl
      | 2 => rfl
      | 3 => rfl
      | 4 => rfl
      | 5 =>
        show (some (.inl (G.2.2.1, 341, .inr (.inr (.inr (.inr (k_tr ad mm)))))) : Option va_E) = some (.inl (G.2.2.1, 341, .inr (.inr (.inr (.inr (k_tr ad (up2 mm 13 t v)))))))
        have e : k_tr ad mm = k_tr ad (up2 mm 13 t v) := by
          funext q
          unfold k_tr
          by_cases h : q = t
          · subst h; rw [up2_s, if_neg hs, if_neg hv]
          · rw [up2_i h]
        rw [e]
      | 6 => rfl
      | n + 7 => rfl
    | 1 => rfl
    | 2 => rfl
    | 3 => rfl
    | 4 => rfl
    | 5 => rfl
    | 6 =>
      show (if b < 341 ∧ ¬ mm 13 b = 0 then some (Sum.inr (2, k_tl mm b)) else none) = if b < 341 ∧ ¬ up2 mm 13 t v 13 b = 0 then some (Sum.inr (2, [_, _, _, _, _, Value.int (up2 mm 13 t v 13 b - 1), _])) else none
      rw [up2_i (fun y => z ⟨rfl, y⟩)]; rfl
    | n + 7 => rfl
theorem kcu_picture (ht : t < 341) (hs : ¬ mm 13 t = 0) : k_up (k_C G ad mm) 6 t (.inr (2, (k_tl mm t).set 6 (.int v))) = k_C G ad (up2 mm 14 t v) := by
  refine up_of ?_ fun a b z => ?_
  · show (if t < 341 ∧ ¬ mm 13 t = 0 then some (Sum.inr (2, [_, _, _, _, _, _, Value.int (up2 mm 14 t v 14 t)])) else none) = _
    rw [up2_s, if_pos ⟨ht, hs⟩]; rfl
  · match a with
    | 0 => rfl
    | 1 => rfl
    | 2 => rfl
    | 3 => rfl
    | 4 => rfl
    | 5 => rfl
    | 6 =>
      show (if b < 341 ∧ ¬ mm 13 b = 0 then some (Sum.inr (2, k_tl mm b)) else none) = if b < 341 ∧ ¬ mm 13 b = 0 then some (Sum.inr (2, [_, _, _, _, _, _, Value.int (up2 mm 14 t v 14 b)])) else none
      rw [up2_i (fun y => z ⟨rfl, y⟩)]; rfl
    | n + 7 => rfl
end
