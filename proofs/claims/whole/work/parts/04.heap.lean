/-! the heap as a value: addresses, kinds, lengths, and what the places hold: ints, longs, references -/
abbrev hs_T : Type := List Nat × (Nat → Nat) × (Nat → Nat) × (Nat → Nat → Int32) × (Nat → Nat → Int64) × (Nat → Nat → Option Nat)
def hs_L (S : hs_T) : List Nat := S.1
def hs_K (S : hs_T) : Nat → Nat := S.2.1
def hs_N (S : hs_T) : Nat → Nat := S.2.2.1
def hs_I (S : hs_T) : Nat → Nat → Int32 := S.2.2.2.1
def hs_J (S : hs_T) : Nat → Nat → Int64 := S.2.2.2.2.1
def hs_R (S : hs_T) : Nat → Nat → Option Nat := S.2.2.2.2.2
/-- one place of one row -/
def hs_u {α : Type} (f : Nat → Nat → α) (a i : Nat) (v : α) : Nat → Nat → α := va_up f a (va_up (f a) i v)
def hs_sI (S : hs_T) (a i : Nat) (v : Int32) : hs_T := (hs_L S, hs_K S, hs_N S, hs_u (hs_I S) a i v, hs_J S, hs_R S)
def hs_sJ (S : hs_T) (a i : Nat) (v : Int64) : hs_T := (hs_L S, hs_K S, hs_N S, hs_I S, hs_u (hs_J S) a i v, hs_R S)
def hs_sR (S : hs_T) (a i : Nat) (v : Option Nat) : hs_T := (hs_L S, hs_K S, hs_N S, hs_I S, hs_J S, hs_u (hs_R S) a i v)
/-- a whole row of references -/
def hs_rR (S : hs_T) (a : Nat) (f : Nat → Option Nat) : hs_T := (hs_L S, hs_K S, hs_N S, hs_I S, hs_J S, va_up (hs_R S) a f)
def hs_new (S : hs_T) (a k n : Nat) : hs_T := (hs_L S ++ [a], va_up (hs_K S) a k, va_up (hs_N S) a n, va_up (hs_I S) a (fun _ => 0), va_up (hs_J S) a (fun _ => 0), va_up (hs_R S) a (fun _ => none))
theorem hs_u_at {α : Type} (f : Nat → Nat → α) (a i : Nat) (v : α) (b j : Nat) : hs_u f a i v b j = if b = a ∧ j = i then v else f b j := by
  unfold hs_u va_up
  by_cases h : b = a
  · subst h; by_cases h2 : j = i <;> simp [h2]
  · simp [h]
theorem hs_u_row {α : Type} (f : Nat → Nat → α) (a i : Nat) (v : α) : hs_u f a i v a = va_up (f a) i v := by simp [hs_u, va_up]
theorem hs_u_off {α : Type} (f : Nat → Nat → α) {a b : Nat} (i : Nat) (v : α) (h : b ≠ a) : hs_u f a i v b = f b := by simp [hs_u, va_up, h]
/-- the classes whose objects live there -/
abbrev hs_cl : List vw_C := [(RJx4a65c, TJx4a65c, 3), (RX0, TX0, 3), (RX1, TX1, 9), (RX2, TX2, 2), (RX4, TX4, 3), (RX5, TX5, 5), (RX6, TX6, 2), (RX7, TX7, 5), (RX8, TX8, 6), (RX9, TX9, 12), (RX10, TX10, 37)]
/-- their fields: 0 an int, 1 a long, 2 a reference -/
def hs_ft : Nat → List Nat
  | 0 => [0, 2, 0]
  | 1 => [2, 0, 0]
  | 2 => [0, 0, 0, 1, 1, 1, 0, 0, 1]
  | 3 => [0, 1]
  | 4 => [2, 2, 0]
  | 5 => [0, 0, 0, 0, 0]
  | 6 => [0, 2]
  | 7 => [2, 0, 0, 0, 0]
  | 8 => [0, 0, 0, 0, 0, 0]
  | 9 => [2, 2, 2, 0, 2, 0, 2, 0, 2, 2, 1, 0]
  | 10 => [0, 0, 0, 0, 2, 2, 2, 2, 2, 2, 2, 0, 2, 0, 0, 0, 0, 0, 2, 2, 2, 2, 2, 0, 2, 0, 2, 0, 2, 2, 2, 2, 2, 0, 1, 2, 0]
  | _ => []
def hs_V (S : hs_T) (a i : Nat) : Nat → Value
  | 0 => .int (hs_I S a i)
  | 1 => .long (hs_J S a i)
  | _ => va_rf (hs_R S a i)
def hs_fs (S : hs_T) (a : Nat) : Nat → List Nat → List Value
  | _, [] => []
  | i, t :: ts => hs_V S a i t :: hs_fs S a (i + 1) ts
def hs_E (cy : Nat → ClassId) (S : hs_T) (a : Nat) : va_E := match hs_K S a with
  | 11 => .inl (cy 0, hs_N S a, .inl (hs_I S a))
  | 12 => .inl (cy 1, hs_N S a, .inl (hs_I S a))
  | 13 => .inl (cy 2, hs_N S a, .inr (.inl (hs_J S a)))
  | 14 => .inl (cy 3, hs_N S a, .inl (hs_I S a))
  | 15 => .inl (cy 4, hs_N S a, .inr (.inr (.inr (.inr (hs_R S a)))))
  | k => .inr (k, hs_fs S a 0 (hs_ft k))
theorem hs_fs_at (S : hs_T) (a : Nat) : ∀ (ts : List Nat) (i j t : Nat), ts[j]? = some t → (hs_fs S a i ts)[j]? = some (hs_V S a (i + j) t)
  | [], i, j, t, h => by simp at h
  | x :: ts, i, 0, t, h => by
    simp at h; subst h; simp [hs_fs]
  | x :: ts, i, j + 1, t, h => by
    simp at h
    have := hs_fs_at S a ts (i + 1) j t h
    simp only [hs_fs, List.getElem?_cons_succ]
    rw [this, show i + 1 + j = i + (j + 1) by omega]
theorem hs_fs_len (S : hs_T) (a : Nat) : ∀ (ts : List Nat) (i : Nat), (hs_fs S a i ts).length = ts.length
  | [], _ => rfl
  | _ :: ts, i => by simp [hs_fs, hs_fs_len S a ts (i + 1)]
theorem hs_fs_congr {S S' : hs_T} {a : Nat} : ∀ (ts : List Nat) (i : Nat), (∀ j t, ts[j]? = some t → hs_V S a (i + j) t = hs_V S' a (i + j) t) → hs_fs S a i ts = hs_fs S' a i ts
  | [], _, _ => rfl
  | t :: ts, i, h => by
    have h0 := h 0 t rfl
    rw [Nat.add_zero] at h0
    simp only [hs_fs]
    rw [h0, hs_fs_congr (S' := S') ts (i + 1) (fun j t' hj => by have := h (j + 1) t' (by simpa using hj); rw [show i + 1 + j = i + (j + 1) by omega]; exact this)]
theorem hs_fs_set {S S' : hs_T} {a : Nat} (v : Value) : ∀ (ts : List Nat) (i k t : Nat), ts[k]? = some t → hs_V S' a (i + k) t = v → (∀ j t', j ≠ k → ts[j]? = some t' → hs_V S a (i + j) t' = hs_V S' a (i + j) t') → (hs_fs S a i ts).set k v = hs_fs S' a i ts
  | [], i, k, t, h, _, _ => by simp at h
  | x :: ts, i, 0, t, h, hv, ho => by
    simp at h; subst h
    rw [Nat.add_zero] at hv
    simp only [hs_fs, List.set_cons_zero]
    rw [hv, hs_fs_congr (S' := S') ts (i + 1) (fun j t' hj => by have := ho (j + 1) t' (by omega) (by simpa using hj); rw [show i + 1 + j = i + (j + 1) by omega]; exact this)]
  | x :: ts, i, k + 1, t, h, hv, ho => by
    simp at h
    have h0 := ho 0 x (by omega) rfl
    rw [Nat.add_zero] at h0
    simp only [hs_fs, List.set_cons_succ]
    rw [h0, hs_fs_set v ts (i + 1) k t h (by rw [show i + 1 + k = i + (k + 1) by omega]; exact hv) (fun j t' hj hjt => by have := ho (j + 1) t' (by omega) (by simpa using hjt); rw [show i + 1 + j = i + (j + 1) by omega]; exact this)]
/-- the cell depends on the rows of its own address alone -/
theorem hs_E_congr {cy : Nat → ClassId} {S S' : hs_T} {a : Nat} (hK : hs_K S a = hs_K S' a) (hN : hs_N S a = hs_N S' a) (hI : hs_I S a = hs_I S' a) (hJ : hs_J S a = hs_J S' a) (hR : hs_R S a = hs_R S' a) : hs_E cy S a = hs_E cy S' a := by
  have hV : ∀ i t, hs_V S a i t = hs_V S' a i t := fun i t => by
    unfold hs_V; split <;> simp [hI, hJ, hR]
  have hf : ∀ ts i, hs_fs S a i ts = hs_fs S' a i ts := fun ts i => hs_fs_congr ts i (fun j t _ => hV _ _)
  unfold hs_E
  rw [hK]
  split <;> simp [hN, hI, hJ, hR, hf]
theorem hs_E_obj {cy : Nat → ClassId} {S : hs_T} {a k : Nat} (hK : hs_K S a = k) (hk : k < 11) : hs_E cy S a = .inr (k, hs_fs S a 0 (hs_ft k)) := by
  unfold hs_E
  rw [hK]
  split <;> first | omega | rfl
theorem hs_E_B {cy : Nat → ClassId} {S : hs_T} {a : Nat} (hK : hs_K S a = 11) : hs_E cy S a = .inl (cy 0, hs_N S a, .inl (hs_I S a)) := by simp only [hs_E, hK]
theorem hs_E_I {cy : Nat → ClassId} {S : hs_T} {a : Nat} (hK : hs_K S a = 12) : hs_E cy S a = .inl (cy 1, hs_N S a, .inl (hs_I S a)) := by simp only [hs_E, hK]
theorem hs_E_J {cy : Nat → ClassId} {S : hs_T} {a : Nat} (hK : hs_K S a = 13) : hs_E cy S a = .inl (cy 2, hs_N S a, .inr (.inl (hs_J S a))) := by simp only [hs_E, hK]
theorem hs_E_Z {cy : Nat → ClassId} {S : hs_T} {a : Nat} (hK : hs_K S a = 14) : hs_E cy S a = .inl (cy 3, hs_N S a, .inl (hs_I S a)) := by simp only [hs_E, hK]
theorem hs_E_R {cy : Nat → ClassId} {S : hs_T} {a : Nat} (hK : hs_K S a = 15) : hs_E cy S a = .inl (cy 4, hs_N S a, .inr (.inr (.inr (.inr (hs_R S a))))) := by simp only [hs_E, hK]
/-- a cell is changed: the others stay -/
theorem hs_up {cy : Nat → ClassId} {S S' : hs_T} {a : Nat} {e : va_E} (he : hs_E cy S' a = e) (ho : ∀ b, b ≠ a → hs_E cy S b = hs_E cy S' b) (b : Nat) : va_up (hs_E cy S) a e b = hs_E cy S' b := by
  unfold va_up
  by_cases h : b = a
  · subst h; simp [he]
  · simp [h, ho b h]
theorem hs_off_sI (cy : Nat → ClassId) (S : hs_T) (a i : Nat) (v : Int32) : ∀ b, b ≠ a → hs_E cy S b = hs_E cy (hs_sI S a i v) b := fun b h => hs_E_congr rfl rfl (by show hs_I S b = hs_u (hs_I S) a i v b; rw [hs_u_off _ _ _ h]) rfl rfl
theorem hs_off_sJ (cy : Nat → ClassId) (S : hs_T) (a i : Nat) (v : Int64) : ∀ b, b ≠ a → hs_E cy S b = hs_E cy (hs_sJ S a i v) b := fun b h => hs_E_congr rfl rfl rfl (by show hs_J S b = hs_u (hs_J S) a i v b; rw [hs_u_off _ _ _ h]) rfl
theorem hs_off_sR (cy : Nat → ClassId) (S : hs_T) (a i : Nat) (v : Option Nat) : ∀ b, b ≠ a → hs_E cy S b = hs_E cy (hs_sR S a i v) b := fun b h => hs_E_congr rfl rfl rfl rfl (by show hs_R S b = hs_u (hs_R S) a i v b; rw [hs_u_off _ _ _ h])
theorem hs_off_rR (cy : Nat → ClassId) (S : hs_T) (a : Nat) (f : Nat → Option Nat) : ∀ b, b ≠ a → hs_E cy S b = hs_E cy (hs_rR S a f) b := fun b h => hs_E_congr rfl rfl rfl rfl (by show hs_R S b = va_up (hs_R S) a f b; rw [va_up_ne _ _ h])
theorem hs_off_new (cy : Nat → ClassId) (S : hs_T) (a k n : Nat) : ∀ b, b ≠ a → hs_E cy S b = hs_E cy (hs_new S a k n) b := fun b h => hs_E_congr (by show hs_K S b = va_up (hs_K S) a k b; rw [va_up_ne _ _ h]) (by show hs_N S b = va_up (hs_N S) a n b; rw [va_up_ne _ _ h]) (by show hs_I S b = va_up (hs_I S) a _ b; rw [va_up_ne _ _ h]) (by show hs_J S b = va_up (hs_J S) a _ b; rw [va_up_ne _ _ h]) (by show hs_R S b = va_up (hs_R S) a _ b; rw [va_up_ne _ _ h])
/-- what the new cell's fields hold -/
def hs_z : Nat → Value
  | 0 => .int 0
  | 1 => .long 0
  | _ => .null
def hs_zs (ts : List Nat) : List Value := ts.map hs_z
theorem hs_new_fs (S : hs_T) (a k n : Nat) : ∀ (ts : List Nat) (i : Nat), hs_fs (hs_new S a k n) a i ts = hs_zs ts
  | [], _ => rfl
  | t :: ts, i => by
    simp only [hs_fs, hs_zs, List.map_cons]
    rw [hs_new_fs S a k n ts (i + 1)]
    congr 1
    unfold hs_V hs_z
    split <;> simp [hs_new, hs_I, hs_J, hs_R, va_up, va_rf]
/-! reading after writing -/
theorem hs_L_sI (S : hs_T) (a i : Nat) (v : Int32) : hs_L (hs_sI S a i v) = hs_L S := rfl
theorem hs_L_sJ (S : hs_T) (a i : Nat) (v : Int64) : hs_L (hs_sJ S a i v) = hs_L S := rfl
theorem hs_L_sR (S : hs_T) (a i : Nat) (v : Option Nat) : hs_L (hs_sR S a i v) = hs_L S := rfl
theorem hs_L_rR (S : hs_T) (a : Nat) (f : Nat → Option Nat) : hs_L (hs_rR S a f) = hs_L S := rfl
theorem hs_L_new (S : hs_T) (a k n : Nat) : hs_L (hs_new S a k n) = hs_L S ++ [a] := rfl
theorem hs_K_sI (S : hs_T) (a i : Nat) (v : Int32) : hs_K (hs_sI S a i v) = hs_K S := rfl
theorem hs_K_sJ (S : hs_T) (a i : Nat) (v : Int64) : hs_K (hs_sJ S a i v) = hs_K S := rfl
theorem hs_K_sR (S : hs_T) (a i : Nat) (v : Option Nat) : hs_K (hs_sR S a i v) = hs_K S := rfl
theorem hs_K_rR (S : hs_T) (a : Nat) (f : Nat → Option Nat) : hs_K (hs_rR S a f) = hs_K S := rfl
theorem hs_K_new (S : hs_T) (a k n b : Nat) : hs_K (hs_new S a k n) b = if b = a then k else hs_K S b := rfl
theorem hs_N_sI (S : hs_T) (a i : Nat) (v : Int32) : hs_N (hs_sI S a i v) = hs_N S := rfl
theorem hs_N_sJ (S : hs_T) (a i : Nat) (v : Int64) : hs_N (hs_sJ S a i v) = hs_N S := rfl
theorem hs_N_sR (S : hs_T) (a i : Nat) (v : Option Nat) : hs_N (hs_sR S a i v) = hs_N S := rfl
theorem hs_N_rR (S : hs_T) (a : Nat) (f : Nat → Option Nat) : hs_N (hs_rR S a f) = hs_N S := rfl
theorem hs_N_new (S : hs_T) (a k n b : Nat) : hs_N (hs_new S a k n) b = if b = a then n else hs_N S b := rfl
theorem hs_I_sI (S : hs_T) (a i : Nat) (v : Int32) (b j : Nat) : hs_I (hs_sI S a i v) b j = if b = a ∧ j = i then v else hs_I S b j := hs_u_at _ _ _ _ _ _
theorem hs_I_sJ (S : hs_T) (a i : Nat) (v : Int64) : hs_I (hs_sJ S a i v) = hs_I S := rfl
theorem hs_I_sR (S : hs_T) (a i : Nat) (v : Option Nat) : hs_I (hs_sR S a i v) = hs_I S := rfl
theorem hs_I_rR (S : hs_T) (a : Nat) (f : Nat → Option Nat) : hs_I (hs_rR S a f) = hs_I S := rfl
theorem hs_I_new (S : hs_T) (a k n b j : Nat) : hs_I (hs_new S a k n) b j = if b = a then 0 else hs_I S b j := by
  show va_up (hs_I S) a (fun _ => 0) b j = _
  unfold va_up; split <;> rfl
theorem hs_J_sI (S : hs_T) (a i : Nat) (v : Int32) : hs_J (hs_sI S a i v) = hs_J S := rfl
theorem hs_J_sJ (S : hs_T) (a i : Nat) (v : Int64) (b j : Nat) : hs_J (hs_sJ S a i v) b j = if b = a ∧ j = i then v else hs_J S b j := hs_u_at _ _ _ _ _ _
theorem hs_J_sR (S : hs_T) (a i : Nat) (v : Option Nat) : hs_J (hs_sR S a i v) = hs_J S := rfl
theorem hs_J_rR (S : hs_T) (a : Nat) (f : Nat → Option Nat) : hs_J (hs_rR S a f) = hs_J S := rfl
theorem hs_J_new (S : hs_T) (a k n b j : Nat) : hs_J (hs_new S a k n) b j = if b = a then 0 else hs_J S b j := by
  show va_up (hs_J S) a (fun _ => 0) b j = _
  unfold va_up; split <;> rfl
theorem hs_R_sI (S : hs_T) (a i : Nat) (v : Int32) : hs_R (hs_sI S a i v) = hs_R S := rfl
theorem hs_R_sJ (S : hs_T) (a i : Nat) (v : Int64) : hs_R (hs_sJ S a i v) = hs_R S := rfl
theorem hs_R_sR (S : hs_T) (a i : Nat) (v : Option Nat) (b j : Nat) : hs_R (hs_sR S a i v) b j = if b = a ∧ j = i then v else hs_R S b j := hs_u_at _ _ _ _ _ _
theorem hs_R_rR (S : hs_T) (a : Nat) (f : Nat → Option Nat) (b j : Nat) : hs_R (hs_rR S a f) b j = if b = a then f j else hs_R S b j := by
  show va_up (hs_R S) a f b j = _
  unfold va_up; split <;> rfl
theorem hs_R_new (S : hs_T) (a k n b j : Nat) : hs_R (hs_new S a k n) b j = if b = a then none else hs_R S b j := by
  show va_up (hs_R S) a (fun _ => none) b j = _
  unfold va_up; split <;> rfl
