-- ===== two worlds side by side =====
def loL (g : GG) : List ((Nat → Int32) → va_E) := cell0 g :: cellT g 1 :: cellI g 9 :: cellI g 12 :: cellI g 12 :: cellI g 156 :: cellI g 144 :: cellI g 12 :: cellI g 12 :: cellI g 12 :: cellT g 10 :: cellI g 9 :: cellI g 12 :: cellI g 12 :: cellI g 156 :: cellI g 144 :: cellI g 12 :: cellI g 12 :: cellI g 12 :: cellT g 19 :: cellI g 9 :: cellI g 12 :: cellI g 12 :: cellI g 156 :: cellI g 144 :: cellI g 12 :: cellI g 12 :: cellI g 12 :: cellT g 28 :: cellI g 9 :: cellI g 12 :: cellI g 12 :: cellI g 156 :: cellI g 144 :: cellI g 12 :: cellI g 12 :: cellI g 12 :: cell37 g :: cell38 g :: cell39 g :: cellI g 72 :: cellI g 2048 :: cellI g 8 :: cellI g 8 :: cellS g 44 :: cellI g 40 :: cellS g 46 :: cellI g 40 :: cellS g 48 :: cellI g 40 :: cellS g 50 :: cellI g 40 :: []
def hiL (g : GG) : List ((Nat → Int32) → va_E) := cell52 g :: cellI g 1200 :: cell54 g :: cellI g 9 :: cellI g 9 :: cellI g 12 :: cellI g 144 :: cellI g 400 :: cellI g 12 :: cellI g 12 :: cellI g 3328 :: cellI g 8 :: cellI g 4 :: cellI g 4 :: cellI g 160 :: []
theorem shL_two (g : GG) : shL g = loL g ++ hiL g := rfl
theorem loL_len (g : GG) : (loL g).length = 52 := rfl
theorem gA_gp (g : GG) (a : Nat → Nat) (ps : List Nat) (k : Nat) : gA (gp g a ps) k = a k := rfl
theorem cellI_gp (g : GG) (a a' : Nat → Nat) (ps ps' : List Nat) (n : Nat) : cellI (gp g a ps) n = cellI (gp g a' ps') n := rfl
theorem cellE_lo {g : GG} {k : Nat} (h : k < 52) : cellE g k = (loL g).getD k (cellI g 0) := by
  show (shL g).getD k (cellI g 0) = _
  rw [shL_two, List.getD_eq_getElem?_getD, List.getD_eq_getElem?_getD, List.getElem?_append_left (by rw [loL_len]; exact h)]
theorem cellE_hi {g : GG} {k : Nat} (h : 52 ≤ k) : cellE g k = (hiL g).getD (k - 52) (cellI g 0) := by
  show (shL g).getD k (cellI g 0) = _
  rw [shL_two, List.getD_eq_getElem?_getD, List.getD_eq_getElem?_getD, List.getElem?_append_right (by rw [loL_len]; exact h), loL_len]
theorem cellT_gp {g : GG} {a a' : Nat → Nat} (ps ps' : List Nat) (h : ∀ j, j < 52 → a j = a' j) {b : Nat} (hb : b + 8 < 52) : cellT (gp g a ps) b = cellT (gp g a' ps') b := by
  funext r
  simp only [cellT, gA_gp]
  rw [h (b + 1) (by omega), h (b + 2) (by omega), h (b + 3) (by omega), h (b + 4) (by omega), h (b + 5) (by omega), h (b + 6) (by omega), h (b + 7) (by omega), h (b + 8) (by omega)]
theorem cellS_gp {g : GG} {a a' : Nat → Nat} (ps ps' : List Nat) (h : ∀ j, j < 52 → a j = a' j) {b : Nat} (hb : b + 1 < 52) : cellS (gp g a ps) b = cellS (gp g a' ps') b := by
  funext r
  simp only [cellS, gA_gp]
  rw [h (b + 1) (by omega)]
theorem loL_gp {g : GG} {a a' : Nat → Nat} (ps ps' : List Nat) (h : ∀ j, j < 52 → a j = a' j) : loL (gp g a ps) = loL (gp g a' ps') := by
  have e0 : cell0 (gp g a ps) = cell0 (gp g a' ps') := by
    funext r
    simp only [cell0, gA_gp]
    rw [h 1 (by decide), h 37 (by decide), h 39 (by decide), h 10 (by decide), h 19 (by decide), h 44 (by decide), h 46 (by decide), h 48 (by decide), h 50 (by decide)]
  have e37 : cell37 (gp g a ps) = cell37 (gp g a' ps') := by
    funext r
    simp only [cell37, gA_gp]
    rw [h 38 (by decide), h 28 (by decide)]
  have e38 : cell38 (gp g a ps) = cell38 (gp g a' ps') := rfl
  have e39 : cell39 (gp g a ps) = cell39 (gp g a' ps') := by
    funext r
    simp only [cell39, gA_gp]
    rw [h 40 (by decide), h 41 (by decide), h 42 (by decide), h 43 (by decide)]
  have eI : cellI (gp g a ps) = cellI (gp g a' ps') := rfl
  simp only [loL]
  rw [e0, e37, e38, e39, eI, cellT_gp ps ps' h (b := 1) (by decide), cellT_gp ps ps' h (b := 10) (by decide), cellT_gp ps ps' h (b := 19) (by decide), cellT_gp ps ps' h (b := 28) (by decide), cellS_gp ps ps' h (b := 44) (by decide), cellS_gp ps ps' h (b := 46) (by decide), cellS_gp ps ps' h (b := 48) (by decide), cellS_gp ps ps' h (b := 50) (by decide)]
theorem hiL_gp {g : GG} {a a' : Nat → Nat} (ps ps' : List Nat) (h : ∀ j, 52 ≤ j → a j = a' j) : hiL (gp g a ps) = hiL (gp g a' ps') := by
  have e52 : cell52 (gp g a ps) = cell52 (gp g a' ps') := by
    funext r
    simp only [cell52, gA_gp]
    rw [h 53 (by decide), h 54 (by decide), h 55 (by decide), h 56 (by decide), h 57 (by decide), h 58 (by decide), h 59 (by decide), h 60 (by decide), h 61 (by decide), h 62 (by decide), h 63 (by decide), h 64 (by decide), h 65 (by decide), h 66 (by decide)]
  have e54 : cell54 (gp g a ps) = cell54 (gp g a' ps') := rfl
  have eI : cellI (gp g a ps) = cellI (gp g a' ps') := rfl
  simp only [hiL]
  rw [e52, e54, eI]
theorem Wp_lo {g : GG} {a a' : Nat → Nat} {M M' : MM} {ps : List Nat} (hp : ∀ k ∈ ps, k < 52) (ha : ∀ j, j < 52 → a j = a' j) (hM : ∀ j, j < 52 → M j = M' j) : Wp g a ps M = Wp g a' ps M' := by
  show List.map (fun k => (a k, cellE (gp g a ps) k (M k))) ps = List.map (fun k => (a' k, cellE (gp g a' ps) k (M' k))) ps
  refine List.map_congr_left fun k hk => ?_
  have h := hp k hk
  rw [ha k h, hM k h, cellE_lo h, cellE_lo h, loL_gp ps ps ha, cellI_gp g a a' ps ps 0]
theorem Wp_hi {g : GG} {a a' : Nat → Nat} {M M' : MM} {ps : List Nat} (hp : ∀ k ∈ ps, 52 ≤ k) (ha : ∀ j, 52 ≤ j → a j = a' j) (hM : ∀ j, 52 ≤ j → M j = M' j) : Wp g a ps M = Wp g a' ps M' := by
  show List.map (fun k => (a k, cellE (gp g a ps) k (M k))) ps = List.map (fun k => (a' k, cellE (gp g a' ps) k (M' k))) ps
  refine List.map_congr_left fun k hk => ?_
  have h := hp k hk
  rw [ha k h, hM k h, cellE_hi h, cellE_hi h, hiL_gp ps ps ha, cellI_gp g a a' ps ps 0]
theorem ble_lo {α : Type} {x y : α} {j : Nat} (h : j < 52) : y = cond (Nat.ble 52 j) x y := by
  rw [show Nat.ble 52 j = false from Bool.eq_false_iff.mpr fun q => absurd (Nat.le_of_ble_eq_true q) (Nat.not_le.mpr h)]
  rfl
theorem ble_hi {α : Type} {x y : α} {j : Nat} (h : 52 ≤ j) : x = cond (Nat.ble 52 j) x y := by
  rw [show Nat.ble 52 j = true from Nat.ble_eq_true_of_le h]
  rfl
/-- all places but the first 52 out of another: what both parts hold -/
theorem Wp_glue {g : GG} {a a5 : Nat → Nat} {M M5 : MM} : Wp g a [0, 1, 2, 3, 4, 5, 6, 7, 8, 9, 37, 38, 28, 29, 30, 31, 32, 33, 34, 35, 36, 39, 40, 41, 42, 43, 10, 11, 12, 13, 14, 15, 16, 17, 18, 19, 20, 21, 22, 23, 24, 25, 26, 27, 44, 45, 46, 47, 48, 49, 50, 51] M ++ Wp g a5 [52, 53, 54, 55, 56, 57, 58, 59, 60, 61, 62, 63, 64, 65, 66] M5 = Wp g (fun k => cond (Nat.ble 52 k) (a5 k) (a k)) [0, 1, 2, 3, 4, 5, 6, 7, 8, 9, 37, 38, 28, 29, 30, 31, 32, 33, 34, 35, 36, 39, 40, 41, 42, 43, 10, 11, 12, 13, 14, 15, 16, 17, 18, 19, 20, 21, 22, 23, 24, 25, 26, 27, 44, 45, 46, 47, 48, 49, 50, 51, 52, 53, 54, 55, 56, 57, 58, 59, 60, 61, 62, 63, 64, 65, 66] (fun k => cond (Nat.ble 52 k) (M5 k) (M k)) := by
  rw [Wp_lo (a := a) (a' := fun k => cond (Nat.ble 52 k) (a5 k) (a k)) (M := M) (M' := fun k => cond (Nat.ble 52 k) (M5 k) (M k)) (ps := [0, 1, 2, 3, 4, 5, 6, 7, 8, 9, 37, 38, 28, 29, 30, 31, 32, 33, 34, 35, 36, 39, 40, 41, 42, 43, 10, 11, 12, 13, 14, 15, 16, 17, 18, 19, 20, 21, 22, 23, 24, 25, 26, 27, 44, 45, 46, 47, 48, 49, 50, 51]) (by decide) (fun j h => ble_lo h) (fun j h => ble_lo h), Wp_hi (a := a5) (a' := fun k => cond (Nat.ble 52 k) (a5 k) (a k)) (M := M5) (M' := fun k => cond (Nat.ble 52 k) (M5 k) (M k)) (ps := [52, 53, 54, 55, 56, 57, 58, 59, 60, 61, 62, 63, 64, 65, 66]) (by decide) (fun j h => ble_hi h) (fun j h => ble_hi h), ← Wp_app]
  rfl
