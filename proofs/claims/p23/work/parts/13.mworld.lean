/-! the reference's world: cell 0 is the object, its field k holds g (30 + k) 0; cells 1 to 19 are its arrays -/
abbrev YT : Type := va_G × (Nat → ClassId) × (Nat → Nat) × (Nat → Prop)
def yD (Z : YT) : va_G := Z.1
def yc (Z : YT) : Nat → ClassId := Z.2.1
def ya (Z : YT) : Nat → Nat := Z.2.2.1
def yA (Z : YT) : Nat → Prop := Z.2.2.2
abbrev yty (Z : YT) : List (ClassId × FieldType) := [(yc Z 0, .byte), (yc Z 1, .int), (yc Z 2, .long), (yc Z 3, .object RX3)]
def mw (Z : YT) (g : Nat → Nat → Int32) (gl : Nat → Nat → Int64) : va_W := [(ya Z 0, .inr (7, [.int (g 30 0), .int (g 31 0), .ref (ya Z 1), .ref (ya Z 2), .ref (ya Z 3), .ref (ya Z 4), .ref (ya Z 5), .ref (ya Z 6), .int (g 38 0), .ref (ya Z 7), .ref (ya Z 8), .ref (ya Z 9), .int (g 42 0), .ref (ya Z 10), .int (g 44 0), .int (g 45 0), .ref (ya Z 11), .long (gl 47 0), .int (g 48 0), .int (g 49 0), .int (g 50 0), .int (g 51 0), .ref (ya Z 12), .ref (ya Z 13), .ref (ya Z 14), .ref (ya Z 15), .ref (ya Z 16), .ref (ya Z 17), .ref (ya Z 18), .ref (ya Z 19), .long (gl 60 0)])), (ya Z 1, .inl (yc Z 1, 70, .inl (g 1))), (ya Z 2, .inl (yc Z 1, 70, .inl (g 2))), (ya Z 3, .inl (yc Z 1, 70, .inl (g 3))), (ya Z 4, .inl (yc Z 1, 70, .inl (g 4))), (ya Z 5, .inl (yc Z 1, 70, .inl (g 5))), (ya Z 6, .inl (yc Z 1, 128, .inl (g 6))), (ya Z 7, .inl (yc Z 1, 6, .inl (g 7))), (ya Z 8, .inl (yc Z 1, 6, .inl (g 8))), (ya Z 9, .inl (yc Z 1, 6, .inl (g 9))), (ya Z 10, .inl (yc Z 0, 50, .inl (g 10))), (ya Z 11, .inl (yc Z 1, 128, .inl (g 11))), (ya Z 12, .inl (yc Z 1, 40, .inl (g 12))), (ya Z 13, .inl (yc Z 1, 40, .inl (g 13))), (ya Z 14, .inl (yc Z 1, 40, .inl (g 14))), (ya Z 15, .inl (yc Z 1, 40, .inl (g 15))), (ya Z 16, .inl (yc Z 1, 40, .inl (g 16))), (ya Z 17, .inl (yc Z 1, 6, .inl (g 17))), (ya Z 18, .inl (yc Z 1, 6, .inl (g 18))), (ya Z 19, .inl (yc Z 1, 6, .inl (g 19)))]
section MW
variable {Z : YT} {g : Nat → Nat → Int32} {gl : Nat → Nat → Int64} {H : Heap} {A : Nat → Prop}
theorem mw_0 : (mw Z g gl)[0]? = some (ya Z 0, .inr (7, [.int (g 30 0), .int (g 31 0), .ref (ya Z 1), .ref (ya Z 2), .ref (ya Z 3), .ref (ya Z 4), .ref (ya Z 5), .ref (ya Z 6), .int (g 38 0), .ref (ya Z 7), .ref (ya Z 8), .ref (ya Z 9), .int (g 42 0), .ref (ya Z 10), .int (g 44 0), .int (g 45 0), .ref (ya Z 11), .long (gl 47 0), .int (g 48 0), .int (g 49 0), .int (g 50 0), .int (g 51 0), .ref (ya Z 12), .ref (ya Z 13), .ref (ya Z 14), .ref (ya Z 15), .ref (ya Z 16), .ref (ya Z 17), .ref (ya Z 18), .ref (ya Z 19), .long (gl 60 0)])) := rfl
theorem mw_1 : (mw Z g gl)[1]? = some (ya Z 1, .inl (yc Z 1, 70, .inl (g 1))) := rfl
theorem ms_1 {r : Nat → Int32} (h : va_P (yD Z) vwCl ((mw Z g gl).set 1 (ya Z 1, .inl (yc Z 1, 70, .inl (r)))) H) : va_P (yD Z) vwCl (mw Z (upR g 1 r) gl) H := h
theorem mw_2 : (mw Z g gl)[2]? = some (ya Z 2, .inl (yc Z 1, 70, .inl (g 2))) := rfl
theorem ms_2 {r : Nat → Int32} (h : va_P (yD Z) vwCl ((mw Z g gl).set 2 (ya Z 2, .inl (yc Z 1, 70, .inl (r)))) H) : va_P (yD Z) vwCl (mw Z (upR g 2 r) gl) H := h
theorem mw_3 : (mw Z g gl)[3]? = some (ya Z 3, .inl (yc Z 1, 70, .inl (g 3))) := rfl
theorem ms_3 {r : Nat → Int32} (h : va_P (yD Z) vwCl ((mw Z g gl).set 3 (ya Z 3, .inl (yc Z 1, 70, .inl (r)))) H) : va_P (yD Z) vwCl (mw Z (upR g 3 r) gl) H := h
theorem mw_4 : (mw Z g gl)[4]? = some (ya Z 4, .inl (yc Z 1, 70, .inl (g 4))) := rfl
theorem ms_4 {r : Nat → Int32} (h : va_P (yD Z) vwCl ((mw Z g gl).set 4 (ya Z 4, .inl (yc Z 1, 70, .inl (r)))) H) : va_P (yD Z) vwCl (mw Z (upR g 4 r) gl) H := h
theorem mw_5 : (mw Z g gl)[5]? = some (ya Z 5, .inl (yc Z 1, 70, .inl (g 5))) := rfl
theorem ms_5 {r : Nat → Int32} (h : va_P (yD Z) vwCl ((mw Z g gl).set 5 (ya Z 5, .inl (yc Z 1, 70, .inl (r)))) H) : va_P (yD Z) vwCl (mw Z (upR g 5 r) gl) H := h
theorem mw_6 : (mw Z g gl)[6]? = some (ya Z 6, .inl (yc Z 1, 128, .inl (g 6))) := rfl
theorem ms_6 {r : Nat → Int32} (h : va_P (yD Z) vwCl ((mw Z g gl).set 6 (ya Z 6, .inl (yc Z 1, 128, .inl (r)))) H) : va_P (yD Z) vwCl (mw Z (upR g 6 r) gl) H := h
theorem mw_7 : (mw Z g gl)[7]? = some (ya Z 7, .inl (yc Z 1, 6, .inl (g 7))) := rfl
theorem ms_7 {r : Nat → Int32} (h : va_P (yD Z) vwCl ((mw Z g gl).set 7 (ya Z 7, .inl (yc Z 1, 6, .inl (r)))) H) : va_P (yD Z) vwCl (mw Z (upR g 7 r) gl) H := h
theorem mw_8 : (mw Z g gl)[8]? = some (ya Z 8, .inl (yc Z 1, 6, .inl (g 8))) := rfl
theorem ms_8 {r : Nat → Int32} (h : va_P (yD Z) vwCl ((mw Z g gl).set 8 (ya Z 8, .inl (yc Z 1, 6, .inl (r)))) H) : va_P (yD Z) vwCl (mw Z (upR g 8 r) gl) H := h
theorem mw_9 : (mw Z g gl)[9]? = some (ya Z 9, .inl (yc Z 1, 6, .inl (g 9))) := rfl
theorem ms_9 {r : Nat → Int32} (h : va_P (yD Z) vwCl ((mw Z g gl).set 9 (ya Z 9, .inl (yc Z 1, 6, .inl (r)))) H) : va_P (yD Z) vwCl (mw Z (upR g 9 r) gl) H := h
theorem mw_10 : (mw Z g gl)[10]? = some (ya Z 10, .inl (yc Z 0, 50, .inl (g 10))) := rfl
theorem ms_10 {r : Nat → Int32} (h : va_P (yD Z) vwCl ((mw Z g gl).set 10 (ya Z 10, .inl (yc Z 0, 50, .inl (r)))) H) : va_P (yD Z) vwCl (mw Z (upR g 10 r) gl) H := h
theorem mw_11 : (mw Z g gl)[11]? = some (ya Z 11, .inl (yc Z 1, 128, .inl (g 11))) := rfl
theorem ms_11 {r : Nat → Int32} (h : va_P (yD Z) vwCl ((mw Z g gl).set 11 (ya Z 11, .inl (yc Z 1, 128, .inl (r)))) H) : va_P (yD Z) vwCl (mw Z (upR g 11 r) gl) H := h
theorem mw_12 : (mw Z g gl)[12]? = some (ya Z 12, .inl (yc Z 1, 40, .inl (g 12))) := rfl
theorem ms_12 {r : Nat → Int32} (h : va_P (yD Z) vwCl ((mw Z g gl).set 12 (ya Z 12, .inl (yc Z 1, 40, .inl (r)))) H) : va_P (yD Z) vwCl (mw Z (upR g 12 r) gl) H := h
theorem mw_13 : (mw Z g gl)[13]? = some (ya Z 13, .inl (yc Z 1, 40, .inl (g 13))) := rfl
theorem ms_13 {r : Nat → Int32} (h : va_P (yD Z) vwCl ((mw Z g gl).set 13 (ya Z 13, .inl (yc Z 1, 40, .inl (r)))) H) : va_P (yD Z) vwCl (mw Z (upR g 13 r) gl) H := h
theorem mw_14 : (mw Z g gl)[14]? = some (ya Z 14, .inl (yc Z 1, 40, .inl (g 14))) := rfl
theorem ms_14 {r : Nat → Int32} (h : va_P (yD Z) vwCl ((mw Z g gl).set 14 (ya Z 14, .inl (yc Z 1, 40, .inl (r)))) H) : va_P (yD Z) vwCl (mw Z (upR g 14 r) gl) H := h
theorem mw_15 : (mw Z g gl)[15]? = some (ya Z 15, .inl (yc Z 1, 40, .inl (g 15))) := rfl
theorem ms_15 {r : Nat → Int32} (h : va_P (yD Z) vwCl ((mw Z g gl).set 15 (ya Z 15, .inl (yc Z 1, 40, .inl (r)))) H) : va_P (yD Z) vwCl (mw Z (upR g 15 r) gl) H := h
theorem mw_16 : (mw Z g gl)[16]? = some (ya Z 16, .inl (yc Z 1, 40, .inl (g 16))) := rfl
theorem ms_16 {r : Nat → Int32} (h : va_P (yD Z) vwCl ((mw Z g gl).set 16 (ya Z 16, .inl (yc Z 1, 40, .inl (r)))) H) : va_P (yD Z) vwCl (mw Z (upR g 16 r) gl) H := h
theorem mw_17 : (mw Z g gl)[17]? = some (ya Z 17, .inl (yc Z 1, 6, .inl (g 17))) := rfl
theorem ms_17 {r : Nat → Int32} (h : va_P (yD Z) vwCl ((mw Z g gl).set 17 (ya Z 17, .inl (yc Z 1, 6, .inl (r)))) H) : va_P (yD Z) vwCl (mw Z (upR g 17 r) gl) H := h
theorem mw_18 : (mw Z g gl)[18]? = some (ya Z 18, .inl (yc Z 1, 6, .inl (g 18))) := rfl
theorem ms_18 {r : Nat → Int32} (h : va_P (yD Z) vwCl ((mw Z g gl).set 18 (ya Z 18, .inl (yc Z 1, 6, .inl (r)))) H) : va_P (yD Z) vwCl (mw Z (upR g 18 r) gl) H := h
theorem mw_19 : (mw Z g gl)[19]? = some (ya Z 19, .inl (yc Z 1, 6, .inl (g 19))) := rfl
theorem ms_19 {r : Nat → Int32} (h : va_P (yD Z) vwCl ((mw Z g gl).set 19 (ya Z 19, .inl (yc Z 1, 6, .inl (r)))) H) : va_P (yD Z) vwCl (mw Z (upR g 19 r) gl) H := h
theorem mf_0 {v : Int32} (h : va_P (yD Z) vwCl ((mw Z g gl).set 0 (ya Z 0, .inr (7, ([.int (g 30 0), .int (g 31 0), .ref (ya Z 1), .ref (ya Z 2), .ref (ya Z 3), .ref (ya Z 4), .ref (ya Z 5), .ref (ya Z 6), .int (g 38 0), .ref (ya Z 7), .ref (ya Z 8), .ref (ya Z 9), .int (g 42 0), .ref (ya Z 10), .int (g 44 0), .int (g 45 0), .ref (ya Z 11), .long (gl 47 0), .int (g 48 0), .int (g 49 0), .int (g 50 0), .int (g 51 0), .ref (ya Z 12), .ref (ya Z 13), .ref (ya Z 14), .ref (ya Z 15), .ref (ya Z 16), .ref (ya Z 17), .ref (ya Z 18), .ref (ya Z 19), .long (gl 60 0)] : List Value).set 0 (.int v)))) H) : va_P (yD Z) vwCl (mw Z (up2 g 30 0 v) gl) H := h
theorem mf_1 {v : Int32} (h : va_P (yD Z) vwCl ((mw Z g gl).set 0 (ya Z 0, .inr (7, ([.int (g 30 0), .int (g 31 0), .ref (ya Z 1), .ref (ya Z 2), .ref (ya Z 3), .ref (ya Z 4), .ref (ya Z 5), .ref (ya Z 6), .int (g 38 0), .ref (ya Z 7), .ref (ya Z 8), .ref (ya Z 9), .int (g 42 0), .ref (ya Z 10), .int (g 44 0), .int (g 45 0), .ref (ya Z 11), .long (gl 47 0), .int (g 48 0), .int (g 49 0), .int (g 50 0), .int (g 51 0), .ref (ya Z 12), .ref (ya Z 13), .ref (ya Z 14), .ref (ya Z 15), .ref (ya Z 16), .ref (ya Z 17), .ref (ya Z 18), .ref (ya Z 19), .long (gl 60 0)] : List Value).set 1 (.int v)))) H) : va_P (yD Z) vwCl (mw Z (up2 g 31 0 v) gl) H := h
theorem mf_8 {v : Int32} (h : va_P (yD Z) vwCl ((mw Z g gl).set 0 (ya Z 0, .inr (7, ([.int (g 30 0), .int (g 31 0), .ref (ya Z 1), .ref (ya Z 2), .ref (ya Z 3), .ref (ya Z 4), .ref (ya Z 5), .ref (ya Z 6), .int (g 38 0), .ref (ya Z 7), .ref (ya Z 8), .ref (ya Z 9), .int (g 42 0), .ref (ya Z 10), .int (g 44 0), .int (g 45 0), .ref (ya Z 11), .long (gl 47 0), .int (g 48 0), .int (g 49 0), .int (g 50 0), .int (g 51 0), .ref (ya Z 12), .ref (ya Z 13), .ref (ya Z 14), .ref (ya Z 15), .ref (ya Z 16), .ref (ya Z 17), .ref (ya Z 18), .ref (ya Z 19), .long (gl 60 0)] : List Value).set 8 (.int v)))) H) : va_P (yD Z) vwCl (mw Z (up2 g 38 0 v) gl) H := h
theorem mf_12 {v : Int32} (h : va_P (yD Z) vwCl ((mw Z g gl).set 0 (ya Z 0, .inr (7, ([.int (g 30 0), .int (g 31 0), .ref (ya Z 1), .ref (ya Z 2), .ref (ya Z 3), .ref (ya Z 4), .ref (ya Z 5), .ref (ya Z 6), .int (g 38 0), .ref (ya Z 7), .ref (ya Z 8), .ref (ya Z 9), .int (g 42 0), .ref (ya Z 10), .int (g 44 0), .int (g 45 0), .ref (ya Z 11), .long (gl 47 0), .int (g 48 0), .int (g 49 0), .int (g 50 0), .int (g 51 0), .ref (ya Z 12), .ref (ya Z 13), .ref (ya Z 14), .ref (ya Z 15), .ref (ya Z 16), .ref (ya Z 17), .ref (ya Z 18), .ref (ya Z 19), .long (gl 60 0)] : List Value).set 12 (.int v)))) H) : va_P (yD Z) vwCl (mw Z (up2 g 42 0 v) gl) H := h
theorem mf_14 {v : Int32} (h : va_P (yD Z) vwCl ((mw Z g gl).set 0 (ya Z 0, .inr (7, ([.int (g 30 0), .int (g 31 0), .ref (ya Z 1), .ref (ya Z 2), .ref (ya Z 3), .ref (ya Z 4), .ref (ya Z 5), .ref (ya Z 6), .int (g 38 0), .ref (ya Z 7), .ref (ya Z 8), .ref (ya Z 9), .int (g 42 0), .ref (ya Z 10), .int (g 44 0), .int (g 45 0), .ref (ya Z 11), .long (gl 47 0), .int (g 48 0), .int (g 49 0), .int (g 50 0), .int (g 51 0), .ref (ya Z 12), .ref (ya Z 13), .ref (ya Z 14), .ref (ya Z 15), .ref (ya Z 16), .ref (ya Z 17), .ref (ya Z 18), .ref (ya Z 19), .long (gl 60 0)] : List Value).set 14 (.int v)))) H) : va_P (yD Z) vwCl (mw Z (up2 g 44 0 v) gl) H := h
theorem mf_15 {v : Int32} (h : va_P (yD Z) vwCl ((mw Z g gl).set 0 (ya Z 0, .inr (7, ([.int (g 30 0), .int (g 31 0), .ref (ya Z 1), .ref (ya Z 2), .ref (ya Z 3), .ref (ya Z 4), .ref (ya Z 5), .ref (ya Z 6), .int (g 38 0), .ref (ya Z 7), .ref (ya Z 8), .ref (ya Z 9), .int (g 42 0), .ref (ya Z 10), .int (g 44 0), .int (g 45 0), .ref (ya Z 11), .long (gl 47 0), .int (g 48 0), .int (g 49 0), .int (g 50 0), .int (g 51 0), .ref (ya Z 12), .ref (ya Z 13), .ref (ya Z 14), .ref (ya Z 15), .ref (ya Z 16), .ref (ya Z 17), .ref (ya Z 18), .ref (ya Z 19), .long (gl 60 0)] : List Value).set 15 (.int v)))) H) : va_P (yD Z) vwCl (mw Z (up2 g 45 0 v) gl) H := h
theorem mf_17 {v : Int64} (h : va_P (yD Z) vwCl ((mw Z g gl).set 0 (ya Z 0, .inr (7, ([.int (g 30 0), .int (g 31 0), .ref (ya Z 1), .ref (ya Z 2), .ref (ya Z 3), .ref (ya Z 4), .ref (ya Z 5), .ref (ya Z 6), .int (g 38 0), .ref (ya Z 7), .ref (ya Z 8), .ref (ya Z 9), .int (g 42 0), .ref (ya Z 10), .int (g 44 0), .int (g 45 0), .ref (ya Z 11), .long (gl 47 0), .int (g 48 0), .int (g 49 0), .int (g 50 0), .int (g 51 0), .ref (ya Z 12), .ref (ya Z 13), .ref (ya Z 14), .ref (ya Z 15), .ref (ya Z 16), .ref (ya Z 17), .ref (ya Z 18), .ref (ya Z 19), .long (gl 60 0)] : List Value).set 17 (.long v)))) H) : va_P (yD Z) vwCl (mw Z g (upL gl 47 (fun _ => v))) H := h
theorem mf_18 {v : Int32} (h : va_P (yD Z) vwCl ((mw Z g gl).set 0 (ya Z 0, .inr (7, ([.int (g 30 0), .int (g 31 0), .ref (ya Z 1), .ref (ya Z 2), .ref (ya Z 3), .ref (ya Z 4), .ref (ya Z 5), .ref (ya Z 6), .int (g 38 0), .ref (ya Z 7), .ref (ya Z 8), .ref (ya Z 9), .int (g 42 0), .ref (ya Z 10), .int (g 44 0), .int (g 45 0), .ref (ya Z 11), .long (gl 47 0), .int (g 48 0), .int (g 49 0), .int (g 50 0), .int (g 51 0), .ref (ya Z 12), .ref (ya Z 13), .ref (ya Z 14), .ref (ya Z 15), .ref (ya Z 16), .ref (ya Z 17), .ref (ya Z 18), .ref (ya Z 19), .long (gl 60 0)] : List Value).set 18 (.int v)))) H) : va_P (yD Z) vwCl (mw Z (up2 g 48 0 v) gl) H := h
theorem mf_19 {v : Int32} (h : va_P (yD Z) vwCl ((mw Z g gl).set 0 (ya Z 0, .inr (7, ([.int (g 30 0), .int (g 31 0), .ref (ya Z 1), .ref (ya Z 2), .ref (ya Z 3), .ref (ya Z 4), .ref (ya Z 5), .ref (ya Z 6), .int (g 38 0), .ref (ya Z 7), .ref (ya Z 8), .ref (ya Z 9), .int (g 42 0), .ref (ya Z 10), .int (g 44 0), .int (g 45 0), .ref (ya Z 11), .long (gl 47 0), .int (g 48 0), .int (g 49 0), .int (g 50 0), .int (g 51 0), .ref (ya Z 12), .ref (ya Z 13), .ref (ya Z 14), .ref (ya Z 15), .ref (ya Z 16), .ref (ya Z 17), .ref (ya Z 18), .ref (ya Z 19), .long (gl 60 0)] : List Value).set 19 (.int v)))) H) : va_P (yD Z) vwCl (mw Z (up2 g 49 0 v) gl) H := h
theorem mf_20 {v : Int32} (h : va_P (yD Z) vwCl ((mw Z g gl).set 0 (ya Z 0, .inr (7, ([.int (g 30 0), .int (g 31 0), .ref (ya Z 1), .ref (ya Z 2), .ref (ya Z 3), .ref (ya Z 4), .ref (ya Z 5), .ref (ya Z 6), .int (g 38 0), .ref (ya Z 7), .ref (ya Z 8), .ref (ya Z 9), .int (g 42 0), .ref (ya Z 10), .int (g 44 0), .int (g 45 0), .ref (ya Z 11), .long (gl 47 0), .int (g 48 0), .int (g 49 0), .int (g 50 0), .int (g 51 0), .ref (ya Z 12), .ref (ya Z 13), .ref (ya Z 14), .ref (ya Z 15), .ref (ya Z 16), .ref (ya Z 17), .ref (ya Z 18), .ref (ya Z 19), .long (gl 60 0)] : List Value).set 20 (.int v)))) H) : va_P (yD Z) vwCl (mw Z (up2 g 50 0 v) gl) H := h
theorem mf_21 {v : Int32} (h : va_P (yD Z) vwCl ((mw Z g gl).set 0 (ya Z 0, .inr (7, ([.int (g 30 0), .int (g 31 0), .ref (ya Z 1), .ref (ya Z 2), .ref (ya Z 3), .ref (ya Z 4), .ref (ya Z 5), .ref (ya Z 6), .int (g 38 0), .ref (ya Z 7), .ref (ya Z 8), .ref (ya Z 9), .int (g 42 0), .ref (ya Z 10), .int (g 44 0), .int (g 45 0), .ref (ya Z 11), .long (gl 47 0), .int (g 48 0), .int (g 49 0), .int (g 50 0), .int (g 51 0), .ref (ya Z 12), .ref (ya Z 13), .ref (ya Z 14), .ref (ya Z 15), .ref (ya Z 16), .ref (ya Z 17), .ref (ya Z 18), .ref (ya Z 19), .long (gl 60 0)] : List Value).set 21 (.int v)))) H) : va_P (yD Z) vwCl (mw Z (up2 g 51 0 v) gl) H := h
theorem mf_30 {v : Int64} (h : va_P (yD Z) vwCl ((mw Z g gl).set 0 (ya Z 0, .inr (7, ([.int (g 30 0), .int (g 31 0), .ref (ya Z 1), .ref (ya Z 2), .ref (ya Z 3), .ref (ya Z 4), .ref (ya Z 5), .ref (ya Z 6), .int (g 38 0), .ref (ya Z 7), .ref (ya Z 8), .ref (ya Z 9), .int (g 42 0), .ref (ya Z 10), .int (g 44 0), .int (g 45 0), .ref (ya Z 11), .long (gl 47 0), .int (g 48 0), .int (g 49 0), .int (g 50 0), .int (g 51 0), .ref (ya Z 12), .ref (ya Z 13), .ref (ya Z 14), .ref (ya Z 15), .ref (ya Z 16), .ref (ya Z 17), .ref (ya Z 18), .ref (ya Z 19), .long (gl 60 0)] : List Value).set 30 (.long v)))) H) : va_P (yD Z) vwCl (mw Z g (upL gl 60 (fun _ => v))) H := h
end MW
theorem mw_fst {Z : YT} {g g' : Nat → Nat → Int32} {gl gl' : Nat → Nat → Int64} : (mw Z g gl).map Prod.fst = (mw Z g' gl').map Prod.fst := by simp [mw]
def MG (Z : YT) : Prop := va_D (yA Z) (mw Z (fun _ _ => 0) (fun _ _ => 0))
theorem MG.D {Z : YT} (h : MG Z) {g : Nat → Nat → Int32} {gl : Nat → Nat → Int64} : va_D (yA Z) (mw Z g gl) := xD_map mw_fst h
def MI (Z : YT) (g : Nat → Nat → Int32) (gl : Nat → Nat → Int64) (U : State) : Prop := va_P (yD Z) vwCl (mw Z g gl) U.heap ∧ va_K (yD Z) vwCl (yty Z) U
theorem MI.at {Z : YT} {g0 g : Nat → Nat → Int32} {gl0 gl : Nat → Nat → Int64} {s U : State} {H : Heap} {locs : List Loc} (h : MI Z g0 gl0 s) (_hS : va_S (yA Z) s.heap H locs) (hP : va_P (yD Z) vwCl (mw Z g gl) H) (hU : U.heap = H) (hW : s.WarmedH U.vm) : MI Z g gl U := ⟨by rw [hU]; exact hP, va_K.moved hW.alike h.2⟩
theorem MI.blind {Z : YT} {g : Nat → Nat → Int32} {gl : Nat → Nat → Int64} {U : State} (f : JFrame) (mk : MethodId) (a : Array Value) (h : MI Z g gl U) : MI Z g gl (U.calling f mk a) := ⟨h.1, va_K.moved (u := U) (U := U.calling f mk a) (Vm.Alike.refl U.vm) h.2⟩
theorem upd_all {P : Int32 → Prop} {f : Nat → Int32} {k : Nat} {v : Int32} (h : ∀ n, P (f n)) (hv : P v) : ∀ n, P (upd f k v n) := fun n => by
  by_cases e : n = k
  · subst e; rw [pk_us]; exact hv
  · rw [pk_un e]; exact h n
/-- what holds of the reference's state between calls -/
def MJ (g : Nat → Nat → Int32) : Prop := (∀ n : Nat, -1 ≤ (g 6 n).toInt ∧ (g 6 n).toInt < 70) ∧ (∀ n : Nat, 0 ≤ (g 4 n).toInt ∧ (g 4 n).toInt ≤ 63) ∧ (∀ n : Nat, (g 5 n).toInt ≤ 63) ∧ (∀ n : Nat, 0 ≤ (g 15 n).toInt ∧ (g 15 n).toInt ≤ 63) ∧ (∀ n : Nat, (g 16 n).toInt ≤ 63) ∧ (∀ n : Nat, 0 ≤ (g 10 n).toInt ∧ (g 10 n).toInt ≤ 126) ∧ (0 ≤ (g 31 0).toInt ∧ (g 31 0).toInt ≤ 70) ∧ (0 ≤ (g 38 0).toInt ∧ (g 38 0).toInt ≤ 6) ∧ (0 ≤ (g 42 0).toInt ∧ (g 42 0).toInt ≤ 50) ∧ (0 ≤ (g 50 0).toInt ∧ (g 50 0).toInt ≤ 40) ∧ (0 ≤ (g 51 0).toInt ∧ (g 51 0).toInt ≤ 6)
theorem MJ.j6 {g : Nat → Nat → Int32} (h : MJ g) : ∀ n : Nat, -1 ≤ (g 6 n).toInt ∧ (g 6 n).toInt < 70 := h.1
theorem MJ.j4 {g : Nat → Nat → Int32} (h : MJ g) : ∀ n : Nat, 0 ≤ (g 4 n).toInt ∧ (g 4 n).toInt ≤ 63 := h.2.1
theorem MJ.j5 {g : Nat → Nat → Int32} (h : MJ g) : ∀ n : Nat, (g 5 n).toInt ≤ 63 := h.2.2.1
theorem MJ.j15 {g : Nat → Nat → Int32} (h : MJ g) : ∀ n : Nat, 0 ≤ (g 15 n).toInt ∧ (g 15 n).toInt ≤ 63 := h.2.2.2.1
theorem MJ.j16 {g : Nat → Nat → Int32} (h : MJ g) : ∀ n : Nat, (g 16 n).toInt ≤ 63 := h.2.2.2.2.1
theorem MJ.j10 {g : Nat → Nat → Int32} (h : MJ g) : ∀ n : Nat, 0 ≤ (g 10 n).toInt ∧ (g 10 n).toInt ≤ 126 := h.2.2.2.2.2.1
theorem MJ.j31 {g : Nat → Nat → Int32} (h : MJ g) : 0 ≤ (g 31 0).toInt ∧ (g 31 0).toInt ≤ 70 := h.2.2.2.2.2.2.1
theorem MJ.j38 {g : Nat → Nat → Int32} (h : MJ g) : 0 ≤ (g 38 0).toInt ∧ (g 38 0).toInt ≤ 6 := h.2.2.2.2.2.2.2.1
theorem MJ.j42 {g : Nat → Nat → Int32} (h : MJ g) : 0 ≤ (g 42 0).toInt ∧ (g 42 0).toInt ≤ 50 := h.2.2.2.2.2.2.2.2.1
theorem MJ.j50 {g : Nat → Nat → Int32} (h : MJ g) : 0 ≤ (g 50 0).toInt ∧ (g 50 0).toInt ≤ 40 := h.2.2.2.2.2.2.2.2.2.1
theorem MJ.j51 {g : Nat → Nat → Int32} (h : MJ g) : 0 ≤ (g 51 0).toInt ∧ (g 51 0).toInt ≤ 6 := h.2.2.2.2.2.2.2.2.2.2
theorem MJ.of {g g' : Nat → Nat → Int32} (h : MJ g) (h6 : (∀ n : Nat, -1 ≤ (g 6 n).toInt ∧ (g 6 n).toInt < 70) → (∀ n : Nat, -1 ≤ (g' 6 n).toInt ∧ (g' 6 n).toInt < 70)) (h4 : (∀ n : Nat, 0 ≤ (g 4 n).toInt ∧ (g 4 n).toInt ≤ 63) → (∀ n : Nat, 0 ≤ (g' 4 n).toInt ∧ (g' 4 n).toInt ≤ 63)) (h5 : (∀ n : Nat, (g 5 n).toInt ≤ 63) → (∀ n : Nat, (g' 5 n).toInt ≤ 63)) (h15 : (∀ n : Nat, 0 ≤ (g 15 n).toInt ∧ (g 15 n).toInt ≤ 63) → (∀ n : Nat, 0 ≤ (g' 15 n).toInt ∧ (g' 15 n).toInt ≤ 63)) (h16 : (∀ n : Nat, (g 16 n).toInt ≤ 63) → (∀ n : Nat, (g' 16 n).toInt ≤ 63)) (h10 : (∀ n : Nat, 0 ≤ (g 10 n).toInt ∧ (g 10 n).toInt ≤ 126) → (∀ n : Nat, 0 ≤ (g' 10 n).toInt ∧ (g' 10 n).toInt ≤ 126)) (h31 : (0 ≤ (g 31 0).toInt ∧ (g 31 0).toInt ≤ 70) → (0 ≤ (g' 31 0).toInt ∧ (g' 31 0).toInt ≤ 70)) (h38 : (0 ≤ (g 38 0).toInt ∧ (g 38 0).toInt ≤ 6) → (0 ≤ (g' 38 0).toInt ∧ (g' 38 0).toInt ≤ 6)) (h42 : (0 ≤ (g 42 0).toInt ∧ (g 42 0).toInt ≤ 50) → (0 ≤ (g' 42 0).toInt ∧ (g' 42 0).toInt ≤ 50)) (h50 : (0 ≤ (g 50 0).toInt ∧ (g 50 0).toInt ≤ 40) → (0 ≤ (g' 50 0).toInt ∧ (g' 50 0).toInt ≤ 40)) (h51 : (0 ≤ (g 51 0).toInt ∧ (g 51 0).toInt ≤ 6) → (0 ≤ (g' 51 0).toInt ∧ (g' 51 0).toInt ≤ 6)) : MJ g' := ⟨h6 h.1, h4 h.2.1, h5 h.2.2.1, h15 h.2.2.2.1, h16 h.2.2.2.2.1, h10 h.2.2.2.2.2.1, h31 h.2.2.2.2.2.2.1, h38 h.2.2.2.2.2.2.2.1, h42 h.2.2.2.2.2.2.2.2.1, h50 h.2.2.2.2.2.2.2.2.2.1, h51 h.2.2.2.2.2.2.2.2.2.2⟩
theorem MJ.au {g : Nat → Nat → Int32} {i : Nat} {r : Nat → Int32} (h : MJ g) (hi : i ∉ ([6, 4, 5, 15, 16, 10, 31, 38, 42, 50, 51] : List Nat)) : MJ (upR g i r) := by
  have e : ∀ j, j ∈ ([6, 4, 5, 15, 16, 10, 31, 38, 42, 50, 51] : List Nat) → (upR g i r) j = g j := fun j hj => by have q : j ≠ i := fun e9 => hi (e9 ▸ hj); simp only [upR, if_neg q]
  refine h.of ?_ ?_ ?_ ?_ ?_ ?_ ?_ ?_ ?_ ?_ ?_
  · intro q; rw [e 6 (by decide)]; exact q
  · intro q; rw [e 4 (by decide)]; exact q
  · intro q; rw [e 5 (by decide)]; exact q
  · intro q; rw [e 15 (by decide)]; exact q
  · intro q; rw [e 16 (by decide)]; exact q
  · intro q; rw [e 10 (by decide)]; exact q
  · intro q; rw [e 31 (by decide)]; exact q
  · intro q; rw [e 38 (by decide)]; exact q
  · intro q; rw [e 42 (by decide)]; exact q
  · intro q; rw [e 50 (by decide)]; exact q
  · intro q; rw [e 51 (by decide)]; exact q
theorem MJ.pu {g : Nat → Nat → Int32} {i : Nat} {v : Int32} (h : MJ g) (hi : i ∉ ([6, 4, 5, 15, 16, 10, 31, 38, 42, 50, 51] : List Nat)) : MJ (up2 g i 0 v) := by
  have e : ∀ j, j ∈ ([6, 4, 5, 15, 16, 10, 31, 38, 42, 50, 51] : List Nat) → (up2 g i 0 v) j = g j := fun j hj => by have q : j ≠ i := fun e9 => hi (e9 ▸ hj); simp only [up2, if_neg q]
  refine h.of ?_ ?_ ?_ ?_ ?_ ?_ ?_ ?_ ?_ ?_ ?_
  · intro q; rw [e 6 (by decide)]; exact q
  · intro q; rw [e 4 (by decide)]; exact q
  · intro q; rw [e 5 (by decide)]; exact q
  · intro q; rw [e 15 (by decide)]; exact q
  · intro q; rw [e 16 (by decide)]; exact q
  · intro q; rw [e 10 (by decide)]; exact q
  · intro q; rw [e 31 (by decide)]; exact q
  · intro q; rw [e 38 (by decide)]; exact q
  · intro q; rw [e 42 (by decide)]; exact q
  · intro q; rw [e 50 (by decide)]; exact q
  · intro q; rw [e 51 (by decide)]; exact q
theorem MJ.a6 {g : Nat → Nat → Int32} {k : Nat} {v : Int32} (h : MJ g) (hv : -1 ≤ v.toInt ∧ v.toInt < 70) : MJ (upR g 6 (upd (g 6) k v)) := by
  refine h.of ?_ ?_ ?_ ?_ ?_ ?_ ?_ ?_ ?_ ?_ ?_
  · intro q; exact upd_all (P := fun x => -1 ≤ x.toInt ∧ x.toInt < 70) q hv
  · intro q; exact q
  · intro q; exact q
  · intro q; exact q
  · intro q; exact q
  · intro q; exact q
  · intro q; exact q
  · intro q; exact q
  · intro q; exact q
  · intro q; exact q
  · intro q; exact q
theorem MJ.a4 {g : Nat → Nat → Int32} {k : Nat} {v : Int32} (h : MJ g) (hv : 0 ≤ v.toInt ∧ v.toInt ≤ 63) : MJ (upR g 4 (upd (g 4) k v)) := by
  refine h.of ?_ ?_ ?_ ?_ ?_ ?_ ?_ ?_ ?_ ?_ ?_
  · intro q; exact q
  · intro q; exact upd_all (P := fun x => 0 ≤ x.toInt ∧ x.toInt ≤ 63) q hv
  · intro q; exact q
  · intro q; exact q
  · intro q; exact q
  · intro q; exact q
  · intro q; exact q
  · intro q; exact q
  · intro q; exact q
  · intro q; exact q
  · intro q; exact q
theorem MJ.a5 {g : Nat → Nat → Int32} {k : Nat} {v : Int32} (h : MJ g) (hv : v.toInt ≤ 63) : MJ (upR g 5 (upd (g 5) k v)) := by
  refine h.of ?_ ?_ ?_ ?_ ?_ ?_ ?_ ?_ ?_ ?_ ?_
  · intro q; exact q
  · intro q; exact q
  · intro q; exact upd_all (P := fun x => x.toInt ≤ 63) q hv
  · intro q; exact q
  · intro q; exact q
  · intro q; exact q
  · intro q; exact q
  · intro q; exact q
  · intro q; exact q
  · intro q; exact q
  · intro q; exact q
theorem MJ.a15 {g : Nat → Nat → Int32} {k : Nat} {v : Int32} (h : MJ g) (hv : 0 ≤ v.toInt ∧ v.toInt ≤ 63) : MJ (upR g 15 (upd (g 15) k v)) := by
  refine h.of ?_ ?_ ?_ ?_ ?_ ?_ ?_ ?_ ?_ ?_ ?_
  · intro q; exact q
  · intro q; exact q
  · intro q; exact q
  · intro q; exact upd_all (P := fun x => 0 ≤ x.toInt ∧ x.toInt ≤ 63) q hv
  · intro q; exact q
  · intro q; exact q
  · intro q; exact q
  · intro q; exact q
  · intro q; exact q
  · intro q; exact q
  · intro q; exact q
theorem MJ.a16 {g : Nat → Nat → Int32} {k : Nat} {v : Int32} (h : MJ g) (hv : v.toInt ≤ 63) : MJ (upR g 16 (upd (g 16) k v)) := by
  refine h.of ?_ ?_ ?_ ?_ ?_ ?_ ?_ ?_ ?_ ?_ ?_
  · intro q; exact q
  · intro q; exact q
  · intro q; exact q
  · intro q; exact q
  · intro q; exact upd_all (P := fun x => x.toInt ≤ 63) q hv
  · intro q; exact q
  · intro q; exact q
  · intro q; exact q
  · intro q; exact q
  · intro q; exact q
  · intro q; exact q
theorem MJ.a10 {g : Nat → Nat → Int32} {k : Nat} {v : Int32} (h : MJ g) (hv : 0 ≤ v.toInt ∧ v.toInt ≤ 126) : MJ (upR g 10 (upd (g 10) k v)) := by
  refine h.of ?_ ?_ ?_ ?_ ?_ ?_ ?_ ?_ ?_ ?_ ?_
  · intro q; exact q
  · intro q; exact q
  · intro q; exact q
  · intro q; exact q
  · intro q; exact q
  · intro q; exact upd_all (P := fun x => 0 ≤ x.toInt ∧ x.toInt ≤ 126) q hv
  · intro q; exact q
  · intro q; exact q
  · intro q; exact q
  · intro q; exact q
  · intro q; exact q
theorem MJ.p31 {g : Nat → Nat → Int32} {v : Int32} (h : MJ g) (hv : 0 ≤ v.toInt ∧ v.toInt ≤ 70) : MJ (up2 g 31 0 v) := by
  refine h.of ?_ ?_ ?_ ?_ ?_ ?_ ?_ ?_ ?_ ?_ ?_
  · intro q; exact q
  · intro q; exact q
  · intro q; exact q
  · intro q; exact q
  · intro q; exact q
  · intro q; exact q
  · intro _; exact hv
  · intro q; exact q
  · intro q; exact q
  · intro q; exact q
  · intro q; exact q
theorem MJ.p38 {g : Nat → Nat → Int32} {v : Int32} (h : MJ g) (hv : 0 ≤ v.toInt ∧ v.toInt ≤ 6) : MJ (up2 g 38 0 v) := by
  refine h.of ?_ ?_ ?_ ?_ ?_ ?_ ?_ ?_ ?_ ?_ ?_
  · intro q; exact q
  · intro q; exact q
  · intro q; exact q
  · intro q; exact q
  · intro q; exact q
  · intro q; exact q
  · intro q; exact q
  · intro _; exact hv
  · intro q; exact q
  · intro q; exact q
  · intro q; exact q
theorem MJ.p42 {g : Nat → Nat → Int32} {v : Int32} (h : MJ g) (hv : 0 ≤ v.toInt ∧ v.toInt ≤ 50) : MJ (up2 g 42 0 v) := by
  refine h.of ?_ ?_ ?_ ?_ ?_ ?_ ?_ ?_ ?_ ?_ ?_
  · intro q; exact q
  · intro q; exact q
  · intro q; exact q
  · intro q; exact q
  · intro q; exact q
  · intro q; exact q
  · intro q; exact q
  · intro q; exact q
  · intro _; exact hv
  · intro q; exact q
  · intro q; exact q
theorem MJ.p50 {g : Nat → Nat → Int32} {v : Int32} (h : MJ g) (hv : 0 ≤ v.toInt ∧ v.toInt ≤ 40) : MJ (up2 g 50 0 v) := by
  refine h.of ?_ ?_ ?_ ?_ ?_ ?_ ?_ ?_ ?_ ?_ ?_
  · intro q; exact q
  · intro q; exact q
  · intro q; exact q
  · intro q; exact q
  · intro q; exact q
  · intro q; exact q
  · intro q; exact q
  · intro q; exact q
  · intro q; exact q
  · intro _; exact hv
  · intro q; exact q
theorem MJ.p51 {g : Nat → Nat → Int32} {v : Int32} (h : MJ g) (hv : 0 ≤ v.toInt ∧ v.toInt ≤ 6) : MJ (up2 g 51 0 v) := by
  refine h.of ?_ ?_ ?_ ?_ ?_ ?_ ?_ ?_ ?_ ?_ ?_
  · intro q; exact q
  · intro q; exact q
  · intro q; exact q
  · intro q; exact q
  · intro q; exact q
  · intro q; exact q
  · intro q; exact q
  · intro q; exact q
  · intro q; exact q
  · intro q; exact q
  · intro _; exact hv
