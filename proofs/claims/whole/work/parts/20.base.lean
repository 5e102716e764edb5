/-! THE TWO OBJECTS: statics, small rows for the walk by rewriting -/
def b2i (b : Bool) : Int32 := if b = true then 1 else 0
theorem gN1_int {x : Int32} : gN1 (.int x) = true := by simp [gN1, gTg8, gTg9, gTgA, Value.category]
theorem gN1_ref {x : Nat} : gN1 (.ref x) = true := by simp [gN1, gTg8, gTg9, gTgA, Value.category]
theorem gN1_null : gN1 .null = true := by decide
theorem gN1_long {x : Int64} : gN1 (.long x) = false := rfl
theorem gTg8_8 {a : Nat} : gTg8 8 a = true := by simp [gN1, gTg8, gTg9, gTgA, Value.category]
theorem gTg8_14 {a : Nat} (h : 1000 ≤ a) : gTg8 14 a = true := by simp [gTg8, h]
theorem gTg9_9 {a : Nat} : gTg9 9 a = true := by simp [gN1, gTg8, gTg9, gTgA, Value.category]
theorem gTg9_13 {a : Nat} (h : 1000 ≤ a) : gTg9 13 a = true := by simp [gTg9, h]
theorem gTgA_8 {a : Nat} : gTgA 8 a = true := by simp [gN1, gTg8, gTg9, gTgA, Value.category]
theorem gTgA_9 {a : Nat} : gTgA 9 a = true := by simp [gN1, gTg8, gTg9, gTgA, Value.category]
theorem gTgA_10 {a : Nat} : gTgA 10 a = true := by simp [gN1, gTg8, gTg9, gTgA, Value.category]
theorem gTgA_11 {a : Nat} : gTgA 11 a = true := by simp [gN1, gTg8, gTg9, gTgA, Value.category]
theorem gTgA_13 {a : Nat} (h : 1000 ≤ a) : gTgA 13 a = true := by simp [gTgA, h]
theorem gTgA_14 {a : Nat} (h : 1000 ≤ a) : gTgA 14 a = true := by simp [gTgA, h]
theorem gB01_0 : gB01 0 = true := by decide
theorem gB01_1 : gB01 1 = true := by decide
theorem gB01_b {b : Bool} : gB01 (b2i b) = true := by cases b <;> rfl
theorem b2i_0 {b : Bool} : (b2i b = 0) = (b = false) := by cases b <;> simp [b2i]
theorem b2i_1 {b : Bool} : (b2i b = 1) = (b = true) := by cases b <;> simp [b2i]
theorem if_b2i {c : Prop} [Decidable c] : (if c then (1 : Int32) else 0) = b2i (decide c) := by by_cases h : c <;> simp [b2i, h]
theorem up_up {α : Type} {f : Nat → α} {k : Nat} {v w : α} : va_up (va_up f k v) k w = va_up f k w := bx_uu f k v w
theorem nI_s (k : Nat) : nI k + 1 = nI (k + 1) := nI_1 k
def fl {α : Type} (f g : Nat → α) (k : Nat) : Nat → α := fun j => if j < k then f j else g j
theorem fl_0 {α : Type} {f g : Nat → α} : fl f g 0 = g := by funext j; simp [fl]
theorem fl_lt {α : Type} {f g : Nat → α} {k j : Nat} (h : j < k) : fl f g k j = f j := if_pos h
theorem fl_ge {α : Type} {f g : Nat → α} {k j : Nat} (h : ¬ j < k) : fl f g k j = g j := if_neg h
theorem fl_at {α : Type} {f g : Nat → α} {k : Nat} : fl f g k k = g k := fl_ge (Nat.lt_irrefl k)
theorem fl_succ {α : Type} {f g : Nat → α} {k : Nat} {v : α} (h : v = f k) : va_up (fl f g k) k v = fl f g (k + 1) := by
  funext j
  unfold va_up fl
  by_cases h1 : j = k
  · subst h1; simp [h]
  · by_cases h2 : j < k
    · simp [h1, h2, show j < k + 1 by omega]
    · simp [h1, h2, show ¬ j < k + 1 by omega]
theorem fl_same {α : Type} {f g : Nat → α} {k : Nat} (h : f k = g k) : fl f g k = fl f g (k + 1) := by
  funext j
  unfold fl
  by_cases h1 : j = k
  · subst h1; simp [h]
  · by_cases h2 : j < k
    · simp [h2, show j < k + 1 by omega]
    · simp [h2, show ¬ j < k + 1 by omega]
theorem fl_next {α : Type} {f g : Nat → α} {k : Nat} : fl f g (k + 1) = va_up (fl f g k) k (f k) := (fl_succ rfl).symm
theorem fl_keep {α : Type} {f g : Nat → α} {k : Nat} : va_up (fl f g k) k (g k) = fl f g k := by
  funext j
  unfold va_up
  by_cases h1 : j = k
  · subst h1; simp [fl_at]
  · simp [h1]
theorem up_self {α : Type} {f : Nat → α} {k : Nat} : va_up f k (f k) = f := by
  funext j
  unfold va_up
  by_cases h1 : j = k
  · subst h1; simp
  · simp [h1]
theorem up_self2 {α : Type} {f : Nat → α} {j k : Nat} {v : α} (h : k ≠ j) : va_up (va_up f j v) k (f k) = va_up f j v := by
  have e : f k = va_up f j v k := (up_ne h).symm
  rw [e]
  exact up_self
theorem up_sort {α : Type} {f : Nat → α} {k l : Nat} {v w : α} (h : l < k) : va_up (va_up f k v) l w = va_up (va_up f l w) k v := by
  funext j
  unfold va_up
  by_cases h1 : j = k
  · subst h1
    have h2 : ¬ j = l := by omega
    simp [h2]
  · simp [h1]
def kdT : List (Nat × Nat × Nat) := [(0, 6, 0), (1, 4, 0), (2, 8, 200), (3, 0, 0), (4, 8, 10), (5, 8, 10), (6, 8, 10), (7, 8, 10), (8, 0, 0), (9, 8, 10), (10, 8, 10), (11, 8, 10), (12, 8, 10), (13, 2, 0), (14, 10, 10), (15, 8, 10), (16, 9, 10), (17, 11, 2), (18, 2, 0), (19, 10, 10), (20, 8, 10), (21, 9, 10), (22, 2, 0), (23, 10, 10), (24, 8, 10), (25, 9, 10), (26, 9, 2), (27, 3, 0), (28, 8, 8), (29, 9, 8), (30, 1, 0), (31, 0, 0), (32, 8, 10), (33, 8, 10), (34, 8, 10), (35, 8, 10), (36, 5, 0), (37, 5, 0), (38, 7, 0), (39, 8, 10), (40, 8, 10), (41, 8, 10), (42, 8, 10), (43, 8, 200), (44, 8, 48), (45, 10, 10), (46, 8, 10), (47, 10, 46), (48, 9, 2), (49, 8, 16), (50, 8, 10), (51, 8, 10), (52, 8, 100)]
def rfT : List (Nat × Nat × Nat) := [(0, 0, 1), (0, 1, 3), (0, 2, 8), (0, 3, 13), (0, 4, 17), (0, 5, 26), (0, 6, 27), (0, 7, 30), (1, 0, 2), (3, 0, 4), (3, 1, 5), (3, 2, 6), (3, 3, 7), (8, 0, 9), (8, 1, 10), (8, 2, 11), (8, 3, 12), (31, 0, 32), (31, 1, 33), (31, 2, 34), (31, 3, 35), (13, 0, 14), (13, 1, 15), (13, 2, 16), (18, 0, 19), (18, 1, 20), (18, 2, 21), (22, 0, 23), (22, 1, 24), (22, 2, 25), (17, 0, 18), (17, 1, 22), (27, 0, 28), (27, 1, 29), (30, 0, 31), (30, 1, 36), (30, 2, 37), (38, 1, 39), (38, 2, 40), (38, 3, 41), (38, 4, 42), (38, 8, 43), (38, 17, 44), (38, 18, 45), (38, 19, 46), (38, 22, 47), (38, 23, 48), (38, 25, 49), (38, 26, 50), (38, 28, 51), (38, 29, 52)]
/-- which cells there are, and what they refer to, once the two objects are made -/
def St (Z : gZ) : Prop := (∀ e ∈ kdT, gKd Z e.1 = e.2) ∧ (∀ e ∈ rfT, Z.2.2.2 e.1 e.2.1 = some e.2.2) ∧ gKd Z 1000 = (14, 5) ∧ gKd Z 1010 = (12, 0) ∧ gKd Z 1030 = (13, 8) ∧ gKd Z 1011 = (12, 1) ∧ gKd Z 1031 = (13, 5) ∧ gKd Z 1012 = (12, 2) ∧ gKd Z 1032 = (13, 5) ∧ gKd Z 1013 = (12, 3) ∧ gKd Z 1033 = (13, 5) ∧ gKd Z 1014 = (12, 4) ∧ gKd Z 1034 = (13, 4) ∧ gKd Z 1015 = (12, 5) ∧ gKd Z 1035 = (13, 6) ∧ gKd Z 1016 = (12, 6) ∧ gKd Z 1036 = (13, 7) ∧ gKd Z 1017 = (12, 7) ∧ gKd Z 1037 = (13, 5) ∧ gKd Z 1018 = (12, 8) ∧ gKd Z 1038 = (13, 3) ∧ gKd Z 1019 = (12, 9) ∧ gKd Z 1039 = (13, 5)
theorem zk_0 {Z : gZ} (h : St Z) : gKd Z 0 = (6, 0) := h.1 (0, 6, 0) (by decide)
theorem zk_1 {Z : gZ} (h : St Z) : gKd Z 1 = (4, 0) := h.1 (1, 4, 0) (by decide)
theorem zk_2 {Z : gZ} (h : St Z) : gKd Z 2 = (8, 200) := h.1 (2, 8, 200) (by decide)
theorem zk_3 {Z : gZ} (h : St Z) : gKd Z 3 = (0, 0) := h.1 (3, 0, 0) (by decide)
theorem zk_4 {Z : gZ} (h : St Z) : gKd Z 4 = (8, 10) := h.1 (4, 8, 10) (by decide)
theorem zk_5 {Z : gZ} (h : St Z) : gKd Z 5 = (8, 10) := h.1 (5, 8, 10) (by decide)
theorem zk_6 {Z : gZ} (h : St Z) : gKd Z 6 = (8, 10) := h.1 (6, 8, 10) (by decide)
theorem zk_7 {Z : gZ} (h : St Z) : gKd Z 7 = (8, 10) := h.1 (7, 8, 10) (by decide)
theorem zk_8 {Z : gZ} (h : St Z) : gKd Z 8 = (0, 0) := h.1 (8, 0, 0) (by decide)
theorem zk_9 {Z : gZ} (h : St Z) : gKd Z 9 = (8, 10) := h.1 (9, 8, 10) (by decide)
theorem zk_10 {Z : gZ} (h : St Z) : gKd Z 10 = (8, 10) := h.1 (10, 8, 10) (by decide)
theorem zk_11 {Z : gZ} (h : St Z) : gKd Z 11 = (8, 10) := h.1 (11, 8, 10) (by decide)
theorem zk_12 {Z : gZ} (h : St Z) : gKd Z 12 = (8, 10) := h.1 (12, 8, 10) (by decide)
theorem zk_13 {Z : gZ} (h : St Z) : gKd Z 13 = (2, 0) := h.1 (13, 2, 0) (by decide)
theorem zk_14 {Z : gZ} (h : St Z) : gKd Z 14 = (10, 10) := h.1 (14, 10, 10) (by decide)
theorem zk_15 {Z : gZ} (h : St Z) : gKd Z 15 = (8, 10) := h.1 (15, 8, 10) (by decide)
theorem zk_16 {Z : gZ} (h : St Z) : gKd Z 16 = (9, 10) := h.1 (16, 9, 10) (by decide)
theorem zk_17 {Z : gZ} (h : St Z) : gKd Z 17 = (11, 2) := h.1 (17, 11, 2) (by decide)
theorem zk_18 {Z : gZ} (h : St Z) : gKd Z 18 = (2, 0) := h.1 (18, 2, 0) (by decide)
theorem zk_19 {Z : gZ} (h : St Z) : gKd Z 19 = (10, 10) := h.1 (19, 10, 10) (by decide)
theorem zk_20 {Z : gZ} (h : St Z) : gKd Z 20 = (8, 10) := h.1 (20, 8, 10) (by decide)
theorem zk_21 {Z : gZ} (h : St Z) : gKd Z 21 = (9, 10) := h.1 (21, 9, 10) (by decide)
theorem zk_22 {Z : gZ} (h : St Z) : gKd Z 22 = (2, 0) := h.1 (22, 2, 0) (by decide)
theorem zk_23 {Z : gZ} (h : St Z) : gKd Z 23 = (10, 10) := h.1 (23, 10, 10) (by decide)
theorem zk_24 {Z : gZ} (h : St Z) : gKd Z 24 = (8, 10) := h.1 (24, 8, 10) (by decide)
theorem zk_25 {Z : gZ} (h : St Z) : gKd Z 25 = (9, 10) := h.1 (25, 9, 10) (by decide)
theorem zk_26 {Z : gZ} (h : St Z) : gKd Z 26 = (9, 2) := h.1 (26, 9, 2) (by decide)
theorem zk_27 {Z : gZ} (h : St Z) : gKd Z 27 = (3, 0) := h.1 (27, 3, 0) (by decide)
theorem zk_28 {Z : gZ} (h : St Z) : gKd Z 28 = (8, 8) := h.1 (28, 8, 8) (by decide)
theorem zk_29 {Z : gZ} (h : St Z) : gKd Z 29 = (9, 8) := h.1 (29, 9, 8) (by decide)
theorem zk_30 {Z : gZ} (h : St Z) : gKd Z 30 = (1, 0) := h.1 (30, 1, 0) (by decide)
theorem zk_31 {Z : gZ} (h : St Z) : gKd Z 31 = (0, 0) := h.1 (31, 0, 0) (by decide)
theorem zk_32 {Z : gZ} (h : St Z) : gKd Z 32 = (8, 10) := h.1 (32, 8, 10) (by decide)
theorem zk_33 {Z : gZ} (h : St Z) : gKd Z 33 = (8, 10) := h.1 (33, 8, 10) (by decide)
theorem zk_34 {Z : gZ} (h : St Z) : gKd Z 34 = (8, 10) := h.1 (34, 8, 10) (by decide)
theorem zk_35 {Z : gZ} (h : St Z) : gKd Z 35 = (8, 10) := h.1 (35, 8, 10) (by decide)
theorem zk_36 {Z : gZ} (h : St Z) : gKd Z 36 = (5, 0) := h.1 (36, 5, 0) (by decide)
theorem zk_37 {Z : gZ} (h : St Z) : gKd Z 37 = (5, 0) := h.1 (37, 5, 0) (by decide)
theorem zk_38 {Z : gZ} (h : St Z) : gKd Z 38 = (7, 0) := h.1 (38, 7, 0) (by decide)
theorem zk_39 {Z : gZ} (h : St Z) : gKd Z 39 = (8, 10) := h.1 (39, 8, 10) (by decide)
theorem zk_40 {Z : gZ} (h : St Z) : gKd Z 40 = (8, 10) := h.1 (40, 8, 10) (by decide)
theorem zk_41 {Z : gZ} (h : St Z) : gKd Z 41 = (8, 10) := h.1 (41, 8, 10) (by decide)
theorem zk_42 {Z : gZ} (h : St Z) : gKd Z 42 = (8, 10) := h.1 (42, 8, 10) (by decide)
theorem zk_43 {Z : gZ} (h : St Z) : gKd Z 43 = (8, 200) := h.1 (43, 8, 200) (by decide)
theorem zk_44 {Z : gZ} (h : St Z) : gKd Z 44 = (8, 48) := h.1 (44, 8, 48) (by decide)
theorem zk_45 {Z : gZ} (h : St Z) : gKd Z 45 = (10, 10) := h.1 (45, 10, 10) (by decide)
theorem zk_46 {Z : gZ} (h : St Z) : gKd Z 46 = (8, 10) := h.1 (46, 8, 10) (by decide)
theorem zk_47 {Z : gZ} (h : St Z) : gKd Z 47 = (10, 46) := h.1 (47, 10, 46) (by decide)
theorem zk_48 {Z : gZ} (h : St Z) : gKd Z 48 = (9, 2) := h.1 (48, 9, 2) (by decide)
theorem zk_49 {Z : gZ} (h : St Z) : gKd Z 49 = (8, 16) := h.1 (49, 8, 16) (by decide)
theorem zk_50 {Z : gZ} (h : St Z) : gKd Z 50 = (8, 10) := h.1 (50, 8, 10) (by decide)
theorem zk_51 {Z : gZ} (h : St Z) : gKd Z 51 = (8, 10) := h.1 (51, 8, 10) (by decide)
theorem zk_52 {Z : gZ} (h : St Z) : gKd Z 52 = (8, 100) := h.1 (52, 8, 100) (by decide)
theorem zk_1000 {Z : gZ} (h : St Z) : gKd Z 1000 = (14, 5) := h.2.2.1
theorem zk_1010 {Z : gZ} (h : St Z) : gKd Z 1010 = (12, 0) := h.2.2.2.1
theorem zk_1030 {Z : gZ} (h : St Z) : gKd Z 1030 = (13, 8) := h.2.2.2.2.1
theorem zk_1011 {Z : gZ} (h : St Z) : gKd Z 1011 = (12, 1) := h.2.2.2.2.2.1
theorem zk_1031 {Z : gZ} (h : St Z) : gKd Z 1031 = (13, 5) := h.2.2.2.2.2.2.1
theorem zk_1012 {Z : gZ} (h : St Z) : gKd Z 1012 = (12, 2) := h.2.2.2.2.2.2.2.1
theorem zk_1032 {Z : gZ} (h : St Z) : gKd Z 1032 = (13, 5) := h.2.2.2.2.2.2.2.2.1
theorem zk_1013 {Z : gZ} (h : St Z) : gKd Z 1013 = (12, 3) := h.2.2.2.2.2.2.2.2.2.1
theorem zk_1033 {Z : gZ} (h : St Z) : gKd Z 1033 = (13, 5) := h.2.2.2.2.2.2.2.2.2.2.1
theorem zk_1014 {Z : gZ} (h : St Z) : gKd Z 1014 = (12, 4) := h.2.2.2.2.2.2.2.2.2.2.2.1
theorem zk_1034 {Z : gZ} (h : St Z) : gKd Z 1034 = (13, 4) := h.2.2.2.2.2.2.2.2.2.2.2.2.1
theorem zk_1015 {Z : gZ} (h : St Z) : gKd Z 1015 = (12, 5) := h.2.2.2.2.2.2.2.2.2.2.2.2.2.1
theorem zk_1035 {Z : gZ} (h : St Z) : gKd Z 1035 = (13, 6) := h.2.2.2.2.2.2.2.2.2.2.2.2.2.2.1
theorem zk_1016 {Z : gZ} (h : St Z) : gKd Z 1016 = (12, 6) := h.2.2.2.2.2.2.2.2.2.2.2.2.2.2.2.1
theorem zk_1036 {Z : gZ} (h : St Z) : gKd Z 1036 = (13, 7) := h.2.2.2.2.2.2.2.2.2.2.2.2.2.2.2.2.1
theorem zk_1017 {Z : gZ} (h : St Z) : gKd Z 1017 = (12, 7) := h.2.2.2.2.2.2.2.2.2.2.2.2.2.2.2.2.2.1
theorem zk_1037 {Z : gZ} (h : St Z) : gKd Z 1037 = (13, 5) := h.2.2.2.2.2.2.2.2.2.2.2.2.2.2.2.2.2.2.1
theorem zk_1018 {Z : gZ} (h : St Z) : gKd Z 1018 = (12, 8) := h.2.2.2.2.2.2.2.2.2.2.2.2.2.2.2.2.2.2.2.1
theorem zk_1038 {Z : gZ} (h : St Z) : gKd Z 1038 = (13, 3) := h.2.2.2.2.2.2.2.2.2.2.2.2.2.2.2.2.2.2.2.2.1
theorem zk_1019 {Z : gZ} (h : St Z) : gKd Z 1019 = (12, 9) := h.2.2.2.2.2.2.2.2.2.2.2.2.2.2.2.2.2.2.2.2.2.1
theorem zk_1039 {Z : gZ} (h : St Z) : gKd Z 1039 = (13, 5) := h.2.2.2.2.2.2.2.2.2.2.2.2.2.2.2.2.2.2.2.2.2.2
theorem zs_0_0 {Z : gZ} (h : St Z) : gRs Z 0 0 = true := by unfold gRs; rw [h.2.1 (0, 0, 1) (by decide)]; rfl
theorem zr_0_0 {Z : gZ} (h : St Z) : gRq Z 0 0 = 1 := by unfold gRq; rw [h.2.1 (0, 0, 1) (by decide)]; rfl
theorem zs_0_1 {Z : gZ} (h : St Z) : gRs Z 0 1 = true := by unfold gRs; rw [h.2.1 (0, 1, 3) (by decide)]; rfl
theorem zr_0_1 {Z : gZ} (h : St Z) : gRq Z 0 1 = 3 := by unfold gRq; rw [h.2.1 (0, 1, 3) (by decide)]; rfl
theorem zs_0_2 {Z : gZ} (h : St Z) : gRs Z 0 2 = true := by unfold gRs; rw [h.2.1 (0, 2, 8) (by decide)]; rfl
theorem zr_0_2 {Z : gZ} (h : St Z) : gRq Z 0 2 = 8 := by unfold gRq; rw [h.2.1 (0, 2, 8) (by decide)]; rfl
theorem zs_0_3 {Z : gZ} (h : St Z) : gRs Z 0 3 = true := by unfold gRs; rw [h.2.1 (0, 3, 13) (by decide)]; rfl
theorem zr_0_3 {Z : gZ} (h : St Z) : gRq Z 0 3 = 13 := by unfold gRq; rw [h.2.1 (0, 3, 13) (by decide)]; rfl
theorem zs_0_4 {Z : gZ} (h : St Z) : gRs Z 0 4 = true := by unfold gRs; rw [h.2.1 (0, 4, 17) (by decide)]; rfl
theorem zr_0_4 {Z : gZ} (h : St Z) : gRq Z 0 4 = 17 := by unfold gRq; rw [h.2.1 (0, 4, 17) (by decide)]; rfl
theorem zs_0_5 {Z : gZ} (h : St Z) : gRs Z 0 5 = true := by unfold gRs; rw [h.2.1 (0, 5, 26) (by decide)]; rfl
theorem zr_0_5 {Z : gZ} (h : St Z) : gRq Z 0 5 = 26 := by unfold gRq; rw [h.2.1 (0, 5, 26) (by decide)]; rfl
theorem zs_0_6 {Z : gZ} (h : St Z) : gRs Z 0 6 = true := by unfold gRs; rw [h.2.1 (0, 6, 27) (by decide)]; rfl
theorem zr_0_6 {Z : gZ} (h : St Z) : gRq Z 0 6 = 27 := by unfold gRq; rw [h.2.1 (0, 6, 27) (by decide)]; rfl
theorem zs_0_7 {Z : gZ} (h : St Z) : gRs Z 0 7 = true := by unfold gRs; rw [h.2.1 (0, 7, 30) (by decide)]; rfl
theorem zr_0_7 {Z : gZ} (h : St Z) : gRq Z 0 7 = 30 := by unfold gRq; rw [h.2.1 (0, 7, 30) (by decide)]; rfl
theorem zs_1_0 {Z : gZ} (h : St Z) : gRs Z 1 0 = true := by unfold gRs; rw [h.2.1 (1, 0, 2) (by decide)]; rfl
theorem zr_1_0 {Z : gZ} (h : St Z) : gRq Z 1 0 = 2 := by unfold gRq; rw [h.2.1 (1, 0, 2) (by decide)]; rfl
theorem zs_3_0 {Z : gZ} (h : St Z) : gRs Z 3 0 = true := by unfold gRs; rw [h.2.1 (3, 0, 4) (by decide)]; rfl
theorem zr_3_0 {Z : gZ} (h : St Z) : gRq Z 3 0 = 4 := by unfold gRq; rw [h.2.1 (3, 0, 4) (by decide)]; rfl
theorem zs_3_1 {Z : gZ} (h : St Z) : gRs Z 3 1 = true := by unfold gRs; rw [h.2.1 (3, 1, 5) (by decide)]; rfl
theorem zr_3_1 {Z : gZ} (h : St Z) : gRq Z 3 1 = 5 := by unfold gRq; rw [h.2.1 (3, 1, 5) (by decide)]; rfl
theorem zs_3_2 {Z : gZ} (h : St Z) : gRs Z 3 2 = true := by unfold gRs; rw [h.2.1 (3, 2, 6) (by decide)]; rfl
theorem zr_3_2 {Z : gZ} (h : St Z) : gRq Z 3 2 = 6 := by unfold gRq; rw [h.2.1 (3, 2, 6) (by decide)]; rfl
theorem zs_3_3 {Z : gZ} (h : St Z) : gRs Z 3 3 = true := by unfold gRs; rw [h.2.1 (3, 3, 7) (by decide)]; rfl
theorem zr_3_3 {Z : gZ} (h : St Z) : gRq Z 3 3 = 7 := by unfold gRq; rw [h.2.1 (3, 3, 7) (by decide)]; rfl
theorem zs_8_0 {Z : gZ} (h : St Z) : gRs Z 8 0 = true := by unfold gRs; rw [h.2.1 (8, 0, 9) (by decide)]; rfl
theorem zr_8_0 {Z : gZ} (h : St Z) : gRq Z 8 0 = 9 := by unfold gRq; rw [h.2.1 (8, 0, 9) (by decide)]; rfl
theorem zs_8_1 {Z : gZ} (h : St Z) : gRs Z 8 1 = true := by unfold gRs; rw [h.2.1 (8, 1, 10) (by decide)]; rfl
theorem zr_8_1 {Z : gZ} (h : St Z) : gRq Z 8 1 = 10 := by unfold gRq; rw [h.2.1 (8, 1, 10) (by decide)]; rfl
theorem zs_8_2 {Z : gZ} (h : St Z) : gRs Z 8 2 = true := by unfold gRs; rw [h.2.1 (8, 2, 11) (by decide)]; rfl
theorem zr_8_2 {Z : gZ} (h : St Z) : gRq Z 8 2 = 11 := by unfold gRq; rw [h.2.1 (8, 2, 11) (by decide)]; rfl
theorem zs_8_3 {Z : gZ} (h : St Z) : gRs Z 8 3 = true := by unfold gRs; rw [h.2.1 (8, 3, 12) (by decide)]; rfl
theorem zr_8_3 {Z : gZ} (h : St Z) : gRq Z 8 3 = 12 := by unfold gRq; rw [h.2.1 (8, 3, 12) (by decide)]; rfl
theorem zs_31_0 {Z : gZ} (h : St Z) : gRs Z 31 0 = true := by unfold gRs; rw [h.2.1 (31, 0, 32) (by decide)]; rfl
theorem zr_31_0 {Z : gZ} (h : St Z) : gRq Z 31 0 = 32 := by unfold gRq; rw [h.2.1 (31, 0, 32) (by decide)]; rfl
theorem zs_31_1 {Z : gZ} (h : St Z) : gRs Z 31 1 = true := by unfold gRs; rw [h.2.1 (31, 1, 33) (by decide)]; rfl
theorem zr_31_1 {Z : gZ} (h : St Z) : gRq Z 31 1 = 33 := by unfold gRq; rw [h.2.1 (31, 1, 33) (by decide)]; rfl
theorem zs_31_2 {Z : gZ} (h : St Z) : gRs Z 31 2 = true := by unfold gRs; rw [h.2.1 (31, 2, 34) (by decide)]; rfl
theorem zr_31_2 {Z : gZ} (h : St Z) : gRq Z 31 2 = 34 := by unfold gRq; rw [h.2.1 (31, 2, 34) (by decide)]; rfl
theorem zs_31_3 {Z : gZ} (h : St Z) : gRs Z 31 3 = true := by unfold gRs; rw [h.2.1 (31, 3, 35) (by decide)]; rfl
theorem zr_31_3 {Z : gZ} (h : St Z) : gRq Z 31 3 = 35 := by unfold gRq; rw [h.2.1 (31, 3, 35) (by decide)]; rfl
theorem zs_13_0 {Z : gZ} (h : St Z) : gRs Z 13 0 = true := by unfold gRs; rw [h.2.1 (13, 0, 14) (by decide)]; rfl
theorem zr_13_0 {Z : gZ} (h : St Z) : gRq Z 13 0 = 14 := by unfold gRq; rw [h.2.1 (13, 0, 14) (by decide)]; rfl
theorem zs_13_1 {Z : gZ} (h : St Z) : gRs Z 13 1 = true := by unfold gRs; rw [h.2.1 (13, 1, 15) (by decide)]; rfl
theorem zr_13_1 {Z : gZ} (h : St Z) : gRq Z 13 1 = 15 := by unfold gRq; rw [h.2.1 (13, 1, 15) (by decide)]; rfl
theorem zs_13_2 {Z : gZ} (h : St Z) : gRs Z 13 2 = true := by unfold gRs; rw [h.2.1 (13, 2, 16) (by decide)]; rfl
theorem zr_13_2 {Z : gZ} (h : St Z) : gRq Z 13 2 = 16 := by unfold gRq; rw [h.2.1 (13, 2, 16) (by decide)]; rfl
theorem zs_18_0 {Z : gZ} (h : St Z) : gRs Z 18 0 = true := by unfold gRs; rw [h.2.1 (18, 0, 19) (by decide)]; rfl
theorem zr_18_0 {Z : gZ} (h : St Z) : gRq Z 18 0 = 19 := by unfold gRq; rw [h.2.1 (18, 0, 19) (by decide)]; rfl
theorem zs_18_1 {Z : gZ} (h : St Z) : gRs Z 18 1 = true := by unfold gRs; rw [h.2.1 (18, 1, 20) (by decide)]; rfl
theorem zr_18_1 {Z : gZ} (h : St Z) : gRq Z 18 1 = 20 := by unfold gRq; rw [h.2.1 (18, 1, 20) (by decide)]; rfl
theorem zs_18_2 {Z : gZ} (h : St Z) : gRs Z 18 2 = true := by unfold gRs; rw [h.2.1 (18, 2, 21) (by decide)]; rfl
theorem zr_18_2 {Z : gZ} (h : St Z) : gRq Z 18 2 = 21 := by unfold gRq; rw [h.2.1 (18, 2, 21) (by decide)]; rfl
theorem zs_22_0 {Z : gZ} (h : St Z) : gRs Z 22 0 = true := by unfold gRs; rw [h.2.1 (22, 0, 23) (by decide)]; rfl
theorem zr_22_0 {Z : gZ} (h : St Z) : gRq Z 22 0 = 23 := by unfold gRq; rw [h.2.1 (22, 0, 23) (by decide)]; rfl
theorem zs_22_1 {Z : gZ} (h : St Z) : gRs Z 22 1 = true := by unfold gRs; rw [h.2.1 (22, 1, 24) (by decide)]; rfl
theorem zr_22_1 {Z : gZ} (h : St Z) : gRq Z 22 1 = 24 := by unfold gRq; rw [h.2.1 (22, 1, 24) (by decide)]; rfl
theorem zs_22_2 {Z : gZ} (h : St Z) : gRs Z 22 2 = true := by unfold gRs; rw [h.2.1 (22, 2, 25) (by decide)]; rfl
theorem zr_22_2 {Z : gZ} (h : St Z) : gRq Z 22 2 = 25 := by unfold gRq; rw [h.2.1 (22, 2, 25) (by decide)]; rfl
theorem zs_17_0 {Z : gZ} (h : St Z) : gRs Z 17 0 = true := by unfold gRs; rw [h.2.1 (17, 0, 18) (by decide)]; rfl
theorem zr_17_0 {Z : gZ} (h : St Z) : gRq Z 17 0 = 18 := by unfold gRq; rw [h.2.1 (17, 0, 18) (by decide)]; rfl
theorem zs_17_1 {Z : gZ} (h : St Z) : gRs Z 17 1 = true := by unfold gRs; rw [h.2.1 (17, 1, 22) (by decide)]; rfl
theorem zr_17_1 {Z : gZ} (h : St Z) : gRq Z 17 1 = 22 := by unfold gRq; rw [h.2.1 (17, 1, 22) (by decide)]; rfl
theorem zs_27_0 {Z : gZ} (h : St Z) : gRs Z 27 0 = true := by unfold gRs; rw [h.2.1 (27, 0, 28) (by decide)]; rfl
theorem zr_27_0 {Z : gZ} (h : St Z) : gRq Z 27 0 = 28 := by unfold gRq; rw [h.2.1 (27, 0, 28) (by decide)]; rfl
theorem zs_27_1 {Z : gZ} (h : St Z) : gRs Z 27 1 = true := by unfold gRs; rw [h.2.1 (27, 1, 29) (by decide)]; rfl
theorem zr_27_1 {Z : gZ} (h : St Z) : gRq Z 27 1 = 29 := by unfold gRq; rw [h.2.1 (27, 1, 29) (by decide)]; rfl
theorem zs_30_0 {Z : gZ} (h : St Z) : gRs Z 30 0 = true := by unfold gRs; rw [h.2.1 (30, 0, 31) (by decide)]; rfl
theorem zr_30_0 {Z : gZ} (h : St Z) : gRq Z 30 0 = 31 := by unfold gRq; rw [h.2.1 (30, 0, 31) (by decide)]; rfl
theorem zs_30_1 {Z : gZ} (h : St Z) : gRs Z 30 1 = true := by unfold gRs; rw [h.2.1 (30, 1, 36) (by decide)]; rfl
theorem zr_30_1 {Z : gZ} (h : St Z) : gRq Z 30 1 = 36 := by unfold gRq; rw [h.2.1 (30, 1, 36) (by decide)]; rfl
theorem zs_30_2 {Z : gZ} (h : St Z) : gRs Z 30 2 = true := by unfold gRs; rw [h.2.1 (30, 2, 37) (by decide)]; rfl
theorem zr_30_2 {Z : gZ} (h : St Z) : gRq Z 30 2 = 37 := by unfold gRq; rw [h.2.1 (30, 2, 37) (by decide)]; rfl
theorem zs_38_1 {Z : gZ} (h : St Z) : gRs Z 38 1 = true := by unfold gRs; rw [h.2.1 (38, 1, 39) (by decide)]; rfl
theorem zr_38_1 {Z : gZ} (h : St Z) : gRq Z 38 1 = 39 := by unfold gRq; rw [h.2.1 (38, 1, 39) (by decide)]; rfl
theorem zs_38_2 {Z : gZ} (h : St Z) : gRs Z 38 2 = true := by unfold gRs; rw [h.2.1 (38, 2, 40) (by decide)]; rfl
theorem zr_38_2 {Z : gZ} (h : St Z) : gRq Z 38 2 = 40 := by unfold gRq; rw [h.2.1 (38, 2, 40) (by decide)]; rfl
theorem zs_38_3 {Z : gZ} (h : St Z) : gRs Z 38 3 = true := by unfold gRs; rw [h.2.1 (38, 3, 41) (by decide)]; rfl
theorem zr_38_3 {Z : gZ} (h : St Z) : gRq Z 38 3 = 41 := by unfold gRq; rw [h.2.1 (38, 3, 41) (by decide)]; rfl
theorem zs_38_4 {Z : gZ} (h : St Z) : gRs Z 38 4 = true := by unfold gRs; rw [h.2.1 (38, 4, 42) (by decide)]; rfl
theorem zr_38_4 {Z : gZ} (h : St Z) : gRq Z 38 4 = 42 := by unfold gRq; rw [h.2.1 (38, 4, 42) (by decide)]; rfl
theorem zs_38_8 {Z : gZ} (h : St Z) : gRs Z 38 8 = true := by unfold gRs; rw [h.2.1 (38, 8, 43) (by decide)]; rfl
theorem zr_38_8 {Z : gZ} (h : St Z) : gRq Z 38 8 = 43 := by unfold gRq; rw [h.2.1 (38, 8, 43) (by decide)]; rfl
theorem zs_38_17 {Z : gZ} (h : St Z) : gRs Z 38 17 = true := by unfold gRs; rw [h.2.1 (38, 17, 44) (by decide)]; rfl
theorem zr_38_17 {Z : gZ} (h : St Z) : gRq Z 38 17 = 44 := by unfold gRq; rw [h.2.1 (38, 17, 44) (by decide)]; rfl
theorem zs_38_18 {Z : gZ} (h : St Z) : gRs Z 38 18 = true := by unfold gRs; rw [h.2.1 (38, 18, 45) (by decide)]; rfl
theorem zr_38_18 {Z : gZ} (h : St Z) : gRq Z 38 18 = 45 := by unfold gRq; rw [h.2.1 (38, 18, 45) (by decide)]; rfl
theorem zs_38_19 {Z : gZ} (h : St Z) : gRs Z 38 19 = true := by unfold gRs; rw [h.2.1 (38, 19, 46) (by decide)]; rfl
theorem zr_38_19 {Z : gZ} (h : St Z) : gRq Z 38 19 = 46 := by unfold gRq; rw [h.2.1 (38, 19, 46) (by decide)]; rfl
theorem zs_38_22 {Z : gZ} (h : St Z) : gRs Z 38 22 = true := by unfold gRs; rw [h.2.1 (38, 22, 47) (by decide)]; rfl
theorem zr_38_22 {Z : gZ} (h : St Z) : gRq Z 38 22 = 47 := by unfold gRq; rw [h.2.1 (38, 22, 47) (by decide)]; rfl
theorem zs_38_23 {Z : gZ} (h : St Z) : gRs Z 38 23 = true := by unfold gRs; rw [h.2.1 (38, 23, 48) (by decide)]; rfl
theorem zr_38_23 {Z : gZ} (h : St Z) : gRq Z 38 23 = 48 := by unfold gRq; rw [h.2.1 (38, 23, 48) (by decide)]; rfl
theorem zs_38_25 {Z : gZ} (h : St Z) : gRs Z 38 25 = true := by unfold gRs; rw [h.2.1 (38, 25, 49) (by decide)]; rfl
theorem zr_38_25 {Z : gZ} (h : St Z) : gRq Z 38 25 = 49 := by unfold gRq; rw [h.2.1 (38, 25, 49) (by decide)]; rfl
theorem zs_38_26 {Z : gZ} (h : St Z) : gRs Z 38 26 = true := by unfold gRs; rw [h.2.1 (38, 26, 50) (by decide)]; rfl
theorem zr_38_26 {Z : gZ} (h : St Z) : gRq Z 38 26 = 50 := by unfold gRq; rw [h.2.1 (38, 26, 50) (by decide)]; rfl
theorem zs_38_28 {Z : gZ} (h : St Z) : gRs Z 38 28 = true := by unfold gRs; rw [h.2.1 (38, 28, 51) (by decide)]; rfl
theorem zr_38_28 {Z : gZ} (h : St Z) : gRq Z 38 28 = 51 := by unfold gRq; rw [h.2.1 (38, 28, 51) (by decide)]; rfl
theorem zs_38_29 {Z : gZ} (h : St Z) : gRs Z 38 29 = true := by unfold gRs; rw [h.2.1 (38, 29, 52) (by decide)]; rfl
theorem zr_38_29 {Z : gZ} (h : St Z) : gRq Z 38 29 = 52 := by unfold gRq; rw [h.2.1 (38, 29, 52) (by decide)]; rfl
