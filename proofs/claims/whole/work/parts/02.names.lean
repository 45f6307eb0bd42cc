/-! NAMES, by program out of the printed task: classes and their fields, the graph of objects, the methods -/
def R_J : String := "DogJudge"
def F_J : u_T := fun k => match k with
  | 0 => ("DogJudge", "heirs", "LDogJudge$Heirs;", true)
  | 1 => ("DogJudge", "visits", "LDogJudge$Visits;", true)
  | 2 => ("DogJudge", "ways", "[I", true)
  | 3 => ("DogJudge", "tastes", "[[I", true)
  | 4 => ("DogJudge", "court", "LDogJudge$Court;", true)
  | 5 => ("DogJudge", "seen", "LDogJudge$Seen;", true)
  | 6 => ("DogJudge", "suits", "LDogJudge$Suits;", true)
  | 7 => ("DogJudge", "turns", "LDogJudge$Turns;", true)
  | 8 => ("DogJudge", "chances", "LDogJudge$Chances;", true)
  | 9 => ("DogJudge", "sheets", "LDogJudge$Sheets;", true)
  | 10 => ("DogJudge", "foundRows", "[[I", true)
  | 11 => ("DogJudge", "tally", "[I", true)
  | _ => ("DogJudge", "trial", "[I", true)
def t_J : Nat → FieldType := fun k => match k with
  | 0 => .object "DogJudge$Heirs"
  | 1 => .object "DogJudge$Visits"
  | 2 => .array (.int)
  | 3 => .array (.array (.int))
  | 4 => .object "DogJudge$Court"
  | 5 => .object "DogJudge$Seen"
  | 6 => .object "DogJudge$Suits"
  | 7 => .object "DogJudge$Turns"
  | 8 => .object "DogJudge$Chances"
  | 9 => .object "DogJudge$Sheets"
  | 10 => .array (.array (.int))
  | 11 => .array (.int)
  | _ => .array (.int)
abbrev w_J : List Cond := u_ws R_J F_J 13
def R_He : String := "DogJudge$Heirs"
def F_He : u_T := fun k => match k with
  | 0 => ("DogJudge$Heirs", "text", "[I", true)
  | 1 => ("DogJudge$Heirs", "goods", "[I", true)
  | 2 => ("DogJudge$Heirs", "bytes", "I", false)
  | 3 => ("DogJudge$Heirs", "many", "I", false)
  | _ => ("DogJudge$Heirs", "faultAt", "I", false)
def t_He : Nat → FieldType := fun k => match k with
  | 0 => .array (.int)
  | 1 => .array (.int)
  | 2 => .int
  | 3 => .int
  | _ => .int
abbrev w_He : List Cond := u_ws R_He F_He 5
def R_Vi : String := "DogJudge$Visits"
def F_Vi : u_T := fun k => match k with
  | 0 => ("DogJudge$Visits", "days", "[I", true)
  | 1 => ("DogJudge$Visits", "who", "[I", true)
  | 2 => ("DogJudge$Visits", "what", "[I", true)
  | 3 => ("DogJudge$Visits", "byDay", "[I", true)
  | 4 => ("DogJudge$Visits", "starts", "[I", true)
  | _ => ("DogJudge$Visits", "told", "I", false)
def t_Vi : Nat → FieldType := fun k => match k with
  | 0 => .array (.int)
  | 1 => .array (.int)
  | 2 => .array (.int)
  | 3 => .array (.int)
  | 4 => .array (.int)
  | _ => .int
abbrev w_Vi : List Cond := u_ws R_Vi F_Vi 6
def R_Co : String := "DogJudge$Court"
def F_Co : u_T := fun k => match k with
  | 0 => ("DogJudge$Court", "heirs", "LDogJudge$Heirs;", true)
  | 1 => ("DogJudge$Court", "visits", "LDogJudge$Visits;", true)
  | 2 => ("DogJudge$Court", "ways", "[I", true)
  | _ => ("DogJudge$Court", "moods", "[LDogJudge$Mood;", true)
def t_Co : Nat → FieldType := fun k => match k with
  | 0 => .object "DogJudge$Heirs"
  | 1 => .object "DogJudge$Visits"
  | 2 => .array (.int)
  | _ => .array (.object "DogJudge$Mood")
abbrev w_Co : List Cond := u_ws R_Co F_Co 4
def R_Mo : String := "DogJudge$Mood"
def F_Mo : u_T := fun k => match k with
  | 0 => ("DogJudge$Mood", "liking", "[I", true)
  | 1 => ("DogJudge$Mood", "last", "[I", true)
  | 2 => ("DogJudge$Mood", "tastes", "[I", true)
  | 3 => ("DogJudge$Mood", "trainer", "I", false)
  | 4 => ("DogJudge$Mood", "came", "I", false)
  | 5 => ("DogJudge$Mood", "sausageDay", "I", false)
  | _ => ("DogJudge$Mood", "found", "I", false)
def t_Mo : Nat → FieldType := fun k => match k with
  | 0 => .array (.int)
  | 1 => .array (.int)
  | 2 => .array (.int)
  | 3 => .int
  | 4 => .int
  | 5 => .int
  | _ => .int
abbrev w_Mo : List Cond := u_ws R_Mo F_Mo 7
def R_Se : String := "DogJudge$Seen"
def F_Se : u_T := fun k => match k with
  | 0 => ("DogJudge$Seen", "wanted", "[I", true)
  | 1 => ("DogJudge$Seen", "many", "I", false)
  | 2 => ("DogJudge$Seen", "lastDay", "I", false)
  | _ => ("DogJudge$Seen", "clashes", "Z", false)
def t_Se : Nat → FieldType := fun k => match k with
  | 0 => .array (.int)
  | 1 => .int
  | 2 => .int
  | _ => .boolean
abbrev w_Se : List Cond := u_ws R_Se F_Se 4
def R_Su : String := "DogJudge$Suits"
def F_Su : u_T := fun k => match k with
  | 0 => ("DogJudge$Suits", "court", "LDogJudge$Court;", true)
  | 1 => ("DogJudge$Suits", "row", "[I", true)
  | 2 => ("DogJudge$Suits", "heir", "I", false)
  | _ => ("DogJudge$Suits", "lastDay", "I", false)
def t_Su : Nat → FieldType := fun k => match k with
  | 0 => .object "DogJudge$Court"
  | 1 => .array (.int)
  | 2 => .int
  | _ => .int
abbrev w_Su : List Cond := u_ws R_Su F_Su 4
def R_Tu : String := "DogJudge$Turns"
def F_Tu : u_T := fun k => match k with
  | 0 => ("DogJudge$Turns", "court", "LDogJudge$Court;", true)
  | 1 => ("DogJudge$Turns", "first", "I", false)
  | 2 => ("DogJudge$Turns", "second", "I", false)
  | _ => ("DogJudge$Turns", "days", "I", false)
def t_Tu : Nat → FieldType := fun k => match k with
  | 0 => .object "DogJudge$Court"
  | 1 => .int
  | 2 => .int
  | _ => .int
abbrev w_Tu : List Cond := u_ws R_Tu F_Tu 4
def R_Ch : String := "DogJudge$Chances"
def F_Ch : u_T := fun k => match k with
  | 0 => ("DogJudge$Chances", "court", "LDogJudge$Court;", true)
  | 1 => ("DogJudge$Chances", "sleepy", "I", false)
  | 2 => ("DogJudge$Chances", "heir", "I", false)
  | 3 => ("DogJudge$Chances", "lastDay", "I", false)
  | 4 => ("DogJudge$Chances", "moreDay", "I", false)
  | _ => ("DogJudge$Chances", "moreThing", "I", false)
def t_Ch : Nat → FieldType := fun k => match k with
  | 0 => .object "DogJudge$Court"
  | 1 => .int
  | 2 => .int
  | 3 => .int
  | 4 => .int
  | _ => .int
abbrev w_Ch : List Cond := u_ws R_Ch F_Ch 6
def R_Sh : String := "DogJudge$Sheets"
def F_Sh : u_T := fun k => match k with
  | 0 => ("DogJudge$Sheets", "forms", "[I", true)
  | 1 => ("DogJudge$Sheets", "sizes", "[I", true)
  | 2 => ("DogJudge$Sheets", "rows", "[[I", true)
  | _ => ("DogJudge$Sheets", "latestFinding", "I", false)
def t_Sh : Nat → FieldType := fun k => match k with
  | 0 => .array (.int)
  | 1 => .array (.int)
  | 2 => .array (.array (.int))
  | _ => .int
abbrev w_Sh : List Cond := u_ws R_Sh F_Sh 4
def R_R : String := "DogJudgeModel"
def F_R : u_T := fun k => match k with
  | 0 => ("DogJudgeModel", "text", "[I", true)
  | 1 => ("DogJudgeModel", "typed", "I", false)
  | 2 => ("DogJudgeModel", "heirs", "I", false)
  | 3 => ("DogJudgeModel", "goods", "[I", true)
  | 4 => ("DogJudgeModel", "tastes", "[I", true)
  | 5 => ("DogJudgeModel", "habit", "I", false)
  | 6 => ("DogJudgeModel", "hunger", "I", false)
  | 7 => ("DogJudgeModel", "fades", "I", false)
  | 8 => ("DogJudgeModel", "sleeps", "I", false)
  | 9 => ("DogJudgeModel", "nightly", "I", false)
  | 10 => ("DogJudgeModel", "visits", "I", false)
  | 11 => ("DogJudgeModel", "visitDay", "[I", true)
  | 12 => ("DogJudgeModel", "visitHeir", "[I", true)
  | 13 => ("DogJudgeModel", "visitThing", "[I", true)
  | 14 => ("DogJudgeModel", "more", "I", false)
  | 15 => ("DogJudgeModel", "moreDay", "[I", true)
  | 16 => ("DogJudgeModel", "moreHeir", "[I", true)
  | 17 => ("DogJudgeModel", "moreThing", "[I", true)
  | 18 => ("DogJudgeModel", "sleepsNow", "I", false)
  | 19 => ("DogJudgeModel", "trainedBy", "I", false)
  | 20 => ("DogJudgeModel", "likings", "[I", true)
  | 21 => ("DogJudgeModel", "lasts", "[I", true)
  | 22 => ("DogJudgeModel", "sausageOn", "I", false)
  | 23 => ("DogJudgeModel", "came", "I", false)
  | 24 => ("DogJudgeModel", "foundIn", "[I", true)
  | 25 => ("DogJudgeModel", "foundFirst", "[I", true)
  | 26 => ("DogJudgeModel", "suitRow", "[I", true)
  | 27 => ("DogJudgeModel", "outs", "[Z", true)
  | 28 => ("DogJudgeModel", "seens", "I", false)
  | 29 => ("DogJudgeModel", "seenDay", "[I", true)
  | 30 => ("DogJudgeModel", "seenHeir", "[I", true)
  | 31 => ("DogJudgeModel", "fits", "[Z", true)
  | 32 => ("DogJudgeModel", "fitMany", "I", false)
  | 33 => ("DogJudgeModel", "fitLeast", "I", false)
  | 34 => ("DogJudgeModel", "alike", "[I", true)
  | 35 => ("DogJudgeModel", "isThere", "[Z", true)
  | 36 => ("DogJudgeModel", "forms", "[I", true)
  | 37 => ("DogJudgeModel", "sizes", "[I", true)
  | 38 => ("DogJudgeModel", "items", "[I", true)
  | 39 => ("DogJudgeModel", "moved", "[I", true)
  | _ => ("DogJudgeModel", "finding", "I", false)
def t_R : Nat → FieldType := fun k => match k with
  | 0 => .array (.int)
  | 1 => .int
  | 2 => .int
  | 3 => .array (.int)
  | 4 => .array (.int)
  | 5 => .int
  | 6 => .int
  | 7 => .int
  | 8 => .int
  | 9 => .int
  | 10 => .int
  | 11 => .array (.int)
  | 12 => .array (.int)
  | 13 => .array (.int)
  | 14 => .int
  | 15 => .array (.int)
  | 16 => .array (.int)
  | 17 => .array (.int)
  | 18 => .int
  | 19 => .int
  | 20 => .array (.int)
  | 21 => .array (.int)
  | 22 => .int
  | 23 => .int
  | 24 => .array (.int)
  | 25 => .array (.int)
  | 26 => .array (.int)
  | 27 => .array (.boolean)
  | 28 => .int
  | 29 => .array (.int)
  | 30 => .array (.int)
  | 31 => .array (.boolean)
  | 32 => .int
  | 33 => .int
  | 34 => .array (.int)
  | 35 => .array (.boolean)
  | 36 => .array (.int)
  | 37 => .array (.int)
  | 38 => .array (.int)
  | 39 => .array (.int)
  | _ => .int
abbrev w_R : List Cond := u_ws R_R F_R 41
abbrev j_cls : List vw_C := [(R_J, F_J, 13), (R_He, F_He, 5), (R_Vi, F_Vi, 6), (R_Co, F_Co, 4), (R_Mo, F_Mo, 7), (R_Se, F_Se, 4), (R_Su, F_Su, 4), (R_Tu, F_Tu, 4), (R_Ch, F_Ch, 6), (R_Sh, F_Sh, 4), (R_R, F_R, 41)]
abbrev j_S : Type := Nat × Nat × List (Option Nat)
def j_shl : List j_S := [
  (0, 0, [some 1, some 4, some 10, some 11, some 15, some 17, some 19, some 21, some 22, some 23, some 31, some 34, some 14]), -- 0 J
  (0, 1, [some 2, some 3, none, none, none]), -- 1 He
  (1, 23, []), -- 2 He.text
  (1, 18, []), -- 3 He.goods
  (0, 2, [some 5, some 6, some 7, some 8, some 9, none]), -- 4 Vi
  (1, 24, []), -- 5 Vi.days
  (1, 24, []), -- 6 Vi.who
  (1, 24, []), -- 7 Vi.what
  (1, 24, []), -- 8 Vi.byDay
  (1, 31, []), -- 9 Vi.starts
  (1, 5, []), -- 10 ways
  (4, 2, [some 12, some 13]), -- 11 tastes
  (1, 3, []), -- 12 tastes0
  (1, 3, []), -- 13 tastes1
  (1, 3, []), -- 14 trial
  (0, 3, [some 1, some 4, some 10, some 16]), -- 15 Co
  (3, 11, [some 35, some 39, some 43, some 47, some 51, some 55, some 59, some 63, some 67, some 71, some 75]), -- 16 moods
  (0, 5, [some 18, none, none, none]), -- 17 Se
  (1, 30, []), -- 18 Se.wanted
  (0, 6, [some 15, some 20, none, none]), -- 19 Su
  (1, 3, []), -- 20 Su.row
  (0, 7, [some 15, none, none, none]), -- 21 Tu
  (0, 8, [some 15, none, none, none, none, none]), -- 22 Ch
  (0, 9, [some 24, some 25, some 26, none]), -- 23 Sh
  (1, 4, []), -- 24 Sh.forms
  (1, 4, []), -- 25 Sh.sizes
  (4, 4, [some 27, some 28, some 29, some 30]), -- 26 Sh.rows
  (1, 48, []), -- 27 Sh.r0
  (1, 48, []), -- 28 Sh.r1
  (1, 48, []), -- 29 Sh.r2
  (1, 48, []), -- 30 Sh.r3
  (4, 2, [some 32, some 33]), -- 31 foundRows
  (1, 30, []), -- 32 fr0
  (1, 30, []), -- 33 fr1
  (1, 21, []), -- 34 tally
  (0, 4, [some 36, some 37, some 38, none, none, none, none]), -- 35 M0
  (1, 6, []), -- 36 M0.liking
  (1, 6, []), -- 37 M0.last
  (1, 3, []), -- 38 M0.tastes
  (0, 4, [some 40, some 41, some 42, none, none, none, none]), -- 39 M1
  (1, 6, []), -- 40 M1.liking
  (1, 6, []), -- 41 M1.last
  (1, 3, []), -- 42 M1.tastes
  (0, 4, [some 44, some 45, some 46, none, none, none, none]), -- 43 M2
  (1, 6, []), -- 44 M2.liking
  (1, 6, []), -- 45 M2.last
  (1, 3, []), -- 46 M2.tastes
  (0, 4, [some 48, some 49, some 50, none, none, none, none]), -- 47 M3
  (1, 6, []), -- 48 M3.liking
  (1, 6, []), -- 49 M3.last
  (1, 3, []), -- 50 M3.tastes
  (0, 4, [some 52, some 53, some 54, none, none, none, none]), -- 51 M4
  (1, 6, []), -- 52 M4.liking
  (1, 6, []), -- 53 M4.last
  (1, 3, []), -- 54 M4.tastes
  (0, 4, [some 56, some 57, some 58, none, none, none, none]), -- 55 M5
  (1, 6, []), -- 56 M5.liking
  (1, 6, []), -- 57 M5.last
  (1, 3, []), -- 58 M5.tastes
  (0, 4, [some 60, some 61, some 62, none, none, none, none]), -- 59 M6
  (1, 6, []), -- 60 M6.liking
  (1, 6, []), -- 61 M6.last
  (1, 3, []), -- 62 M6.tastes
  (0, 4, [some 64, some 65, some 66, none, none, none, none]), -- 63 M7
  (1, 6, []), -- 64 M7.liking
  (1, 6, []), -- 65 M7.last
  (1, 3, []), -- 66 M7.tastes
  (0, 4, [some 68, some 69, some 70, none, none, none, none]), -- 67 M8
  (1, 6, []), -- 68 M8.liking
  (1, 6, []), -- 69 M8.last
  (1, 3, []), -- 70 M8.tastes
  (0, 4, [some 72, some 73, some 74, none, none, none, none]), -- 71 M9
  (1, 6, []), -- 72 M9.liking
  (1, 6, []), -- 73 M9.last
  (1, 3, []), -- 74 M9.tastes
  (0, 4, [some 76, some 77, some 78, none, none, none, none]), -- 75 M10
  (1, 6, []), -- 76 M10.liking
  (1, 6, []), -- 77 M10.last
  (1, 3, []), -- 78 M10.tastes
  (0, 10, [some 80, none, none, some 81, some 82, none, none, none, none, none, none, some 83, some 84, some 85, none, some 86, some 87, some 88, none, none, some 89, some 90, none, none, some 91, some 92, some 93, some 94, none, some 95, some 96, some 97, none, none, some 98, some 99, some 100, some 101, some 102, some 103, none]), -- 79 R
  (1, 23, []), -- 80 R.text
  (1, 21, []), -- 81 R.goods
  (1, 6, []), -- 82 R.tastes
  (1, 24, []), -- 83 R.visitDay
  (1, 24, []), -- 84 R.visitHeir
  (1, 24, []), -- 85 R.visitThing
  (1, 30, []), -- 86 R.moreDay
  (1, 30, []), -- 87 R.moreHeir
  (1, 30, []), -- 88 R.moreThing
  (1, 6, []), -- 89 R.likings
  (1, 6, []), -- 90 R.lasts
  (1, 30, []), -- 91 R.foundIn
  (1, 30, []), -- 92 R.foundFirst
  (1, 3, []), -- 93 R.suitRow
  (2, 256, []), -- 94 R.outs
  (1, 8, []), -- 95 R.seenDay
  (1, 8, []), -- 96 R.seenHeir
  (2, 1000, []), -- 97 R.fits
  (1, 7, []), -- 98 R.alike
  (2, 4, []), -- 99 R.isThere
  (1, 4, []), -- 100 R.forms
  (1, 4, []), -- 101 R.sizes
  (1, 192, []), -- 102 R.items
  (1, 48, []) -- 103 R.moved
]
abbrev j_NA : Nat := 104
def j_sh (a : Nat) : j_S := j_shl.getD a (9, 0, [])
abbrev j_I : Type := MethodName × ByteArray × Nat × Option FieldType
def I_J_init : j_I := (⟨"DogJudge", "<init>", "()V"⟩, prog_1_method_1_code, 1, none)
def I_J_type : j_I := (⟨"DogJudge", "type", "(I)I"⟩, prog_1_method_2_code, 2, (some .int))
def I_J_wipe : j_I := (⟨"DogJudge", "wipe", "()I"⟩, prog_1_method_3_code, 2, (some .int))
def I_J_undo : j_I := (⟨"DogJudge", "undo", "()I"⟩, prog_1_method_4_code, 1, (some .int))
def I_J_fault : j_I := (⟨"DogJudge", "fault", "()I"⟩, prog_1_method_5_code, 1, (some .int))
def I_J_good : j_I := (⟨"DogJudge", "good", "(II)I"⟩, prog_1_method_6_code, 3, (some .int))
def I_J_taste : j_I := (⟨"DogJudge", "taste", "(III)I"⟩, prog_1_method_7_code, 5, (some .int))
def I_J_set : j_I := (⟨"DogJudge", "set", "(II)I"⟩, prog_1_method_8_code, 4, (some .int))
def I_J_visit : j_I := (⟨"DogJudge", "visit", "(III)I"⟩, prog_1_method_9_code, 4, (some .int))
def I_J_back : j_I := (⟨"DogJudge", "back", "()I"⟩, prog_1_method_10_code, 1, (some .int))
def I_J_read : j_I := (⟨"DogJudge", "read", "(I)I"⟩, prog_1_method_11_code, 5, (some .int))
def I_J_liking : j_I := (⟨"DogJudge", "liking", "(III)I"⟩, prog_1_method_12_code, 4, (some .int))
def I_J_found : j_I := (⟨"DogJudge", "found", "(II)I"⟩, prog_1_method_13_code, 3, (some .int))
def I_J_share : j_I := (⟨"DogJudge", "share", "(III)J"⟩, prog_1_method_14_code, 8, (some .long))
def I_J_quarrel : j_I := (⟨"DogJudge", "quarrel", "(I)I"⟩, prog_1_method_15_code, 5, (some .int))
def I_J_dissent : j_I := (⟨"DogJudge", "dissent", "()I"⟩, prog_1_method_16_code, 3, (some .int))
def I_J_changes : j_I := (⟨"DogJudge", "changes", "()I"⟩, prog_1_method_17_code, 5, (some .int))
def I_J_suit : j_I := (⟨"DogJudge", "suit", "(III)I"⟩, prog_1_method_18_code, 5, (some .int))
def I_J_replies : j_I := (⟨"DogJudge", "replies", "(IIII)I"⟩, prog_1_method_19_code, 6, (some .int))
def I_J_seen : j_I := (⟨"DogJudge", "seen", "(II)I"⟩, prog_1_method_20_code, 3, (some .int))
def I_J_forget : j_I := (⟨"DogJudge", "forget", "()I"⟩, prog_1_method_21_code, 2, (some .int))
def I_J_tastes : j_I := (⟨"DogJudge", "tastes", "(I)I"⟩, prog_1_method_22_code, 4, (some .int))
def I_J_tells : j_I := (⟨"DogJudge", "tells", "(II)I"⟩, prog_1_method_23_code, 5, (some .int))
def I_J_trainer : j_I := (⟨"DogJudge", "trainer", "()I"⟩, prog_1_method_24_code, 3, (some .int))
def I_J_chance : j_I := (⟨"DogJudge", "chance", "(IIII)J"⟩, prog_1_method_25_code, 8, (some .long))
def I_J_heard : j_I := (⟨"DogJudge", "heard", "(IIII)I"⟩, prog_1_method_26_code, 11, (some .int))
def I_J_weeks : j_I := (⟨"DogJudge", "weeks", "(III)I"⟩, prog_1_method_27_code, 10, (some .int))
def I_J_sheet : j_I := (⟨"DogJudge", "sheet", "(III)I"⟩, prog_1_method_28_code, 4, (some .int))
def I_J_lose : j_I := (⟨"DogJudge", "lose", "(I)I"⟩, prog_1_method_29_code, 2, (some .int))
def I_J_put : j_I := (⟨"DogJudge", "put", "(IIII)I"⟩, prog_1_method_30_code, 6, (some .int))
def I_J_get : j_I := (⟨"DogJudge", "get", "(III)I"⟩, prog_1_method_31_code, 5, (some .int))
def I_J_copy : j_I := (⟨"DogJudge", "copy", "(IIIII)I"⟩, prog_1_method_32_code, 6, (some .int))
def I_J_write : j_I := (⟨"DogJudge", "write", "(II)I"⟩, prog_1_method_33_code, 5, (some .int))
def I_J_count : j_I := (⟨"DogJudge", "count", "(I)I"⟩, prog_1_method_34_code, 2, (some .int))
def I_J_digest : j_I := (⟨"DogJudge", "digest", "()J"⟩, prog_1_method_35_code, 7, (some .long))
def I_J_mix : j_I := (⟨"DogJudge", "mix", "(JJ)J"⟩, prog_1_method_36_code, 4, (some .long))
def I_J_nextLot : j_I := (⟨"DogJudge", "nextLot", "(I)I"⟩, prog_1_method_37_code, 1, (some .int))
def I_J_isDog : j_I := (⟨"DogJudge", "isDog", "(I)Z"⟩, prog_1_method_38_code, 1, (some .boolean))
def I_J_isThing : j_I := (⟨"DogJudge", "isThing", "(I)Z"⟩, prog_1_method_39_code, 1, (some .boolean))
def I_J_isDay : j_I := (⟨"DogJudge", "isDay", "(I)Z"⟩, prog_1_method_40_code, 1, (some .boolean))
def I_J_isSearchDay : j_I := (⟨"DogJudge", "isSearchDay", "(I)Z"⟩, prog_1_method_41_code, 1, (some .boolean))
def I_J_isOneOfTwo : j_I := (⟨"DogJudge", "isOneOfTwo", "(I)Z"⟩, prog_1_method_42_code, 1, (some .boolean))
def I_J_isChance : j_I := (⟨"DogJudge", "isChance", "(I)Z"⟩, prog_1_method_43_code, 1, (some .boolean))
def I_J_refusal : j_I := (⟨"DogJudge", "refusal", "(I)J"⟩, prog_1_method_44_code, 1, (some .long))
def I_J_fraction : j_I := (⟨"DogJudge", "fraction", "(JJI)J"⟩, prog_1_method_45_code, 7, (some .long))
def I_J_greatestDivisor : j_I := (⟨"DogJudge", "greatestDivisor", "(JJ)J"⟩, prog_1_method_46_code, 11, (some .long))
def I_J_moodBehind : j_I := (⟨"DogJudge", "moodBehind", "(II)LDogJudge$Mood;"⟩, prog_1_method_47_code, 5, (some (.object "DogJudge$Mood")))
def I_J_noteFound : j_I := (⟨"DogJudge", "noteFound", "(I)V"⟩, prog_1_method_48_code, 4, none)
def I_J_areAlike : j_I := (⟨"DogJudge", "areAlike", "(II)Z"⟩, prog_1_method_49_code, 6, (some .boolean))
def I_J_tallyVisits : j_I := (⟨"DogJudge", "tallyVisits", "(II)I"⟩, prog_1_method_50_code, 6, (some .int))
def I_J_visitsThatCount : j_I := (⟨"DogJudge", "visitsThatCount", "()I"⟩, prog_1_method_51_code, 3, (some .int))
def I_J_explains : j_I := (⟨"DogJudge", "explains", "(I)Z"⟩, prog_1_method_52_code, 2, (some .boolean))
def I_J_comesOut : j_I := (⟨"DogJudge", "comesOut", "([II)Z"⟩, prog_1_method_53_code, 5, (some .boolean))
def I_J_tallyFindings : j_I := (⟨"DogJudge", "tallyFindings", "(II)V"⟩, prog_1_method_54_code, 7, none)
def I_J_greatestTally : j_I := (⟨"DogJudge", "greatestTally", "(I)I"⟩, prog_1_method_55_code, 4, (some .int))
def I_R_init : j_I := (⟨"DogJudgeModel", "<init>", "()V"⟩, prog_12_method_1_code, 2, none)
def I_R_in : j_I := (⟨"DogJudgeModel", "in", "(III)Z"⟩, prog_12_method_3_code, 3, (some .boolean))
def I_R_isIn : j_I := (⟨"DogJudgeModel", "isIn", "(II)Z"⟩, prog_12_method_4_code, 2, (some .boolean))
def I_R_no : j_I := (⟨"DogJudgeModel", "no", "(I)J"⟩, prog_12_method_5_code, 1, (some .long))
def I_R_lowest : j_I := (⟨"DogJudgeModel", "lowest", "(JJI)J"⟩, prog_12_method_6_code, 11, (some .long))
def I_R_isSix : j_I := (⟨"DogJudgeModel", "isSix", "(I)Z"⟩, prog_12_method_7_code, 1, (some .boolean))
def I_R_isDay : j_I := (⟨"DogJudgeModel", "isDay", "(I)Z"⟩, prog_12_method_8_code, 1, (some .boolean))
def I_R_isThing : j_I := (⟨"DogJudgeModel", "isThing", "(I)Z"⟩, prog_12_method_9_code, 1, (some .boolean))
def I_R_type : j_I := (⟨"DogJudgeModel", "type", "(I)I"⟩, prog_12_method_10_code, 2, (some .int))
def I_R_wipe : j_I := (⟨"DogJudgeModel", "wipe", "()I"⟩, prog_12_method_11_code, 2, (some .int))
def I_R_undo : j_I := (⟨"DogJudgeModel", "undo", "()I"⟩, prog_12_method_12_code, 1, (some .int))
def I_R_faultNow : j_I := (⟨"DogJudgeModel", "faultNow", "()I"⟩, prog_12_method_13_code, 4, (some .int))
def I_R_fault : j_I := (⟨"DogJudgeModel", "fault", "()I"⟩, prog_12_method_14_code, 1, (some .int))
def I_R_reads : j_I := (⟨"DogJudgeModel", "reads", "()V"⟩, prog_12_method_15_code, 2, none)
def I_R_isHeir : j_I := (⟨"DogJudgeModel", "isHeir", "(I)Z"⟩, prog_12_method_16_code, 2, (some .boolean))
def I_R_good : j_I := (⟨"DogJudgeModel", "good", "(II)I"⟩, prog_12_method_17_code, 3, (some .int))
def I_R_taste : j_I := (⟨"DogJudgeModel", "taste", "(III)I"⟩, prog_12_method_18_code, 5, (some .int))
def I_R_set : j_I := (⟨"DogJudgeModel", "set", "(II)I"⟩, prog_12_method_19_code, 4, (some .int))
def I_R_visit : j_I := (⟨"DogJudgeModel", "visit", "(III)I"⟩, prog_12_method_20_code, 4, (some .int))
def I_R_back : j_I := (⟨"DogJudgeModel", "back", "()I"⟩, prog_12_method_21_code, 1, (some .int))
def I_R_read : j_I := (⟨"DogJudgeModel", "read", "(I)I"⟩, prog_12_method_22_code, 3, (some .int))
def I_R_asTold : j_I := (⟨"DogJudgeModel", "asTold", "()V"⟩, prog_12_method_23_code, 1, none)
def I_R_adds : j_I := (⟨"DogJudgeModel", "adds", "(III)V"⟩, prog_12_method_24_code, 4, none)
def I_R_comes : j_I := (⟨"DogJudgeModel", "comes", "(IIII)V"⟩, prog_12_method_25_code, 6, none)
def I_R_finds : j_I := (⟨"DogJudgeModel", "finds", "(I)I"⟩, prog_12_method_26_code, 5, (some .int))
def I_R_runs : j_I := (⟨"DogJudgeModel", "runs", "(II)V"⟩, prog_12_method_27_code, 7, none)
def I_R_runsTold : j_I := (⟨"DogJudgeModel", "runsTold", "(II)V"⟩, prog_12_method_28_code, 3, none)
def I_R_likingOf : j_I := (⟨"DogJudgeModel", "likingOf", "(III)I"⟩, prog_12_method_29_code, 4, (some .int))
def I_R_liking : j_I := (⟨"DogJudgeModel", "liking", "(III)I"⟩, prog_12_method_30_code, 4, (some .int))
def I_R_foundOf : j_I := (⟨"DogJudgeModel", "foundOf", "(II)I"⟩, prog_12_method_31_code, 3, (some .int))
def I_R_found : j_I := (⟨"DogJudgeModel", "found", "(II)I"⟩, prog_12_method_32_code, 3, (some .int))
def I_R_shareOf : j_I := (⟨"DogJudgeModel", "shareOf", "(III)J"⟩, prog_12_method_33_code, 6, (some .long))
def I_R_share : j_I := (⟨"DogJudgeModel", "share", "(III)J"⟩, prog_12_method_34_code, 4, (some .long))
def I_R_often : j_I := (⟨"DogJudgeModel", "often", "(III)I"⟩, prog_12_method_35_code, 6, (some .int))
def I_R_areAlike : j_I := (⟨"DogJudgeModel", "areAlike", "(II)Z"⟩, prog_12_method_36_code, 7, (some .boolean))
def I_R_quarrelOf : j_I := (⟨"DogJudgeModel", "quarrelOf", "(I)I"⟩, prog_12_method_37_code, 4, (some .int))
def I_R_quarrel : j_I := (⟨"DogJudgeModel", "quarrel", "(I)I"⟩, prog_12_method_38_code, 2, (some .int))
def I_R_dissentNow : j_I := (⟨"DogJudgeModel", "dissentNow", "()I"⟩, prog_12_method_39_code, 3, (some .int))
def I_R_dissent : j_I := (⟨"DogJudgeModel", "dissent", "()I"⟩, prog_12_method_40_code, 1, (some .int))
def I_R_changesNow : j_I := (⟨"DogJudgeModel", "changesNow", "()I"⟩, prog_12_method_41_code, 3, (some .int))
def I_R_changes : j_I := (⟨"DogJudgeModel", "changes", "()I"⟩, prog_12_method_42_code, 1, (some .int))
def I_R_wins : j_I := (⟨"DogJudgeModel", "wins", "(IIIII)Z"⟩, prog_12_method_43_code, 6, (some .boolean))
def I_R_suitBy : j_I := (⟨"DogJudgeModel", "suitBy", "(II)I"⟩, prog_12_method_44_code, 7, (some .int))
def I_R_suitOf : j_I := (⟨"DogJudgeModel", "suitOf", "(III)I"⟩, prog_12_method_45_code, 5, (some .int))
def I_R_suit : j_I := (⟨"DogJudgeModel", "suit", "(III)I"⟩, prog_12_method_46_code, 4, (some .int))
def I_R_playsBy : j_I := (⟨"DogJudgeModel", "playsBy", "(II)Z"⟩, prog_12_method_47_code, 8, (some .boolean))
def I_R_laysOuts : j_I := (⟨"DogJudgeModel", "laysOuts", "(III)V"⟩, prog_12_method_48_code, 7, none)
def I_R_repliesOf : j_I := (⟨"DogJudgeModel", "repliesOf", "(IIII)I"⟩, prog_12_method_49_code, 7, (some .int))
def I_R_replies : j_I := (⟨"DogJudgeModel", "replies", "(IIII)I"⟩, prog_12_method_50_code, 5, (some .int))
def I_R_seen : j_I := (⟨"DogJudgeModel", "seen", "(II)I"⟩, prog_12_method_51_code, 3, (some .int))
def I_R_forget : j_I := (⟨"DogJudgeModel", "forget", "()I"⟩, prog_12_method_52_code, 2, (some .int))
def I_R_isSeen : j_I := (⟨"DogJudgeModel", "isSeen", "()Z"⟩, prog_12_method_53_code, 3, (some .boolean))
def I_R_lastSeen : j_I := (⟨"DogJudgeModel", "lastSeen", "()I"⟩, prog_12_method_54_code, 3, (some .int))
def I_R_tastesBy : j_I := (⟨"DogJudgeModel", "tastesBy", "(I)V"⟩, prog_12_method_55_code, 2, none)
def I_R_laysFits : j_I := (⟨"DogJudgeModel", "laysFits", "()V"⟩, prog_12_method_56_code, 3, none)
def I_R_tastesOf : j_I := (⟨"DogJudgeModel", "tastesOf", "(I)I"⟩, prog_12_method_57_code, 2, (some .int))
def I_R_tastes : j_I := (⟨"DogJudgeModel", "tastes", "(I)I"⟩, prog_12_method_58_code, 2, (some .int))
def I_R_tellsOf : j_I := (⟨"DogJudgeModel", "tellsOf", "(II)I"⟩, prog_12_method_59_code, 9, (some .int))
def I_R_tells : j_I := (⟨"DogJudgeModel", "tells", "(II)I"⟩, prog_12_method_60_code, 3, (some .int))
def I_R_trainerNow : j_I := (⟨"DogJudgeModel", "trainerNow", "()I"⟩, prog_12_method_61_code, 3, (some .int))
def I_R_trainer : j_I := (⟨"DogJudgeModel", "trainer", "()I"⟩, prog_12_method_62_code, 1, (some .int))
def I_R_chanceBy : j_I := (⟨"DogJudgeModel", "chanceBy", "(III)J"⟩, prog_12_method_63_code, 10, (some .long))
def I_R_chanceOf : j_I := (⟨"DogJudgeModel", "chanceOf", "(IIII)J"⟩, prog_12_method_64_code, 5, (some .long))
def I_R_isChance : j_I := (⟨"DogJudgeModel", "isChance", "(III)Z"⟩, prog_12_method_65_code, 4, (some .boolean))
def I_R_chance : j_I := (⟨"DogJudgeModel", "chance", "(IIII)J"⟩, prog_12_method_66_code, 5, (some .long))
def I_R_heardOf : j_I := (⟨"DogJudgeModel", "heardOf", "(IIII)I"⟩, prog_12_method_67_code, 11, (some .int))
def I_R_heard : j_I := (⟨"DogJudgeModel", "heard", "(IIII)I"⟩, prog_12_method_68_code, 5, (some .int))
def I_R_weeksOf : j_I := (⟨"DogJudgeModel", "weeksOf", "(III)I"⟩, prog_12_method_69_code, 7, (some .int))
def I_R_weeks : j_I := (⟨"DogJudgeModel", "weeks", "(III)I"⟩, prog_12_method_70_code, 4, (some .int))
def I_R_meets : j_I := (⟨"DogJudgeModel", "meets", "(I)I"⟩, prog_12_method_71_code, 2, (some .int))
def I_R_isSheet : j_I := (⟨"DogJudgeModel", "isSheet", "(I)Z"⟩, prog_12_method_72_code, 1, (some .boolean))
def I_R_sheet : j_I := (⟨"DogJudgeModel", "sheet", "(III)I"⟩, prog_12_method_73_code, 5, (some .int))
def I_R_lose : j_I := (⟨"DogJudgeModel", "lose", "(I)I"⟩, prog_12_method_74_code, 2, (some .int))
def I_R_lacks : j_I := (⟨"DogJudgeModel", "lacks", "(III)I"⟩, prog_12_method_75_code, 4, (some .int))
def I_R_keep : j_I := (⟨"DogJudgeModel", "keep", "(III)V"⟩, prog_12_method_76_code, 4, none)
def I_R_put : j_I := (⟨"DogJudgeModel", "put", "(IIII)I"⟩, prog_12_method_77_code, 6, (some .int))
def I_R_get : j_I := (⟨"DogJudgeModel", "get", "(III)I"⟩, prog_12_method_78_code, 5, (some .int))
def I_R_copy : j_I := (⟨"DogJudgeModel", "copy", "(IIIII)I"⟩, prog_12_method_79_code, 7, (some .int))
def I_R_write : j_I := (⟨"DogJudgeModel", "write", "(II)I"⟩, prog_12_method_80_code, 4, (some .int))
def I_R_countsMany : j_I := (⟨"DogJudgeModel", "countsMany", "(I)I"⟩, prog_12_method_81_code, 4, (some .int))
def I_R_count : j_I := (⟨"DogJudgeModel", "count", "(I)I"⟩, prog_12_method_82_code, 2, (some .int))
def I_R_heirDigest : j_I := (⟨"DogJudgeModel", "heirDigest", "(JI)J"⟩, prog_12_method_83_code, 7, (some .long))
def I_R_dayDigest : j_I := (⟨"DogJudgeModel", "dayDigest", "(JI)J"⟩, prog_12_method_84_code, 6, (some .long))
def I_R_digest : j_I := (⟨"DogJudgeModel", "digest", "()J"⟩, prog_12_method_85_code, 4, (some .long))
def I_Ch_init : j_I := (⟨"DogJudge$Chances", "<init>", "(LDogJudge$Court;)V"⟩, prog_2_method_1_code, 2, none)
def I_Ch_ask : j_I := (⟨"DogJudge$Chances", "ask", "(III)V"⟩, prog_2_method_2_code, 4, none)
def I_Ch_weigh : j_I := (⟨"DogJudge$Chances", "weigh", "([III)J"⟩, prog_2_method_3_code, 4, (some .long))
def I_Ch_weighFrom : j_I := (⟨"DogJudge$Chances", "weighFrom", "(LDogJudge$Chances;I)J"⟩, prog_2_method_4_code, 9, (some .long))
def I_Co_init : j_I := (⟨"DogJudge$Court", "<init>", "(LDogJudge$Heirs;LDogJudge$Visits;[I)V"⟩, prog_3_method_1_code, 5, none)
def I_Co_isAwake : j_I := (⟨"DogJudge$Court", "isAwake", "(I)Z"⟩, prog_3_method_2_code, 2, (some .boolean))
def I_Co_comersOn : j_I := (⟨"DogJudge$Court", "comersOn", "(I)I"⟩, prog_3_method_3_code, 4, (some .int))
def I_Co_liveDay : j_I := (⟨"DogJudge$Court", "liveDay", "(LDogJudge$Mood;I)V"⟩, prog_3_method_4_code, 3, none)
def I_Co_comeAsTold : j_I := (⟨"DogJudge$Court", "comeAsTold", "(LDogJudge$Mood;I)V"⟩, prog_3_method_5_code, 4, none)
def I_Co_bring : j_I := (⟨"DogJudge$Court", "bring", "(LDogJudge$Mood;III)V"⟩, prog_3_method_6_code, 6, none)
def I_Co_evening : j_I := (⟨"DogJudge$Court", "evening", "(LDogJudge$Mood;)V"⟩, prog_3_method_7_code, 5, none)
def I_Co_mostLiked : j_I := (⟨"DogJudge$Court", "mostLiked", "(LDogJudge$Mood;)I"⟩, prog_3_method_8_code, 5, (some .int))
def I_He_init : j_I := (⟨"DogJudge$Heirs", "<init>", "()V"⟩, prog_4_method_1_code, 1, none)
def I_He_has : j_I := (⟨"DogJudge$Heirs", "has", "(I)Z"⟩, prog_4_method_2_code, 2, (some .boolean))
def I_He_understand : j_I := (⟨"DogJudge$Heirs", "understand", "()V"⟩, prog_4_method_3_code, 3, none)
def I_He_firstFault : j_I := (⟨"DogJudge$Heirs", "firstFault", "()I"⟩, prog_4_method_4_code, 4, (some .int))
def I_Mo_init : j_I := (⟨"DogJudge$Mood", "<init>", "()V"⟩, prog_5_method_1_code, 1, none)
def I_Mo_begin : j_I := (⟨"DogJudge$Mood", "begin", "([II)V"⟩, prog_5_method_2_code, 4, none)
def I_Mo_become : j_I := (⟨"DogJudge$Mood", "become", "(LDogJudge$Mood;)V"⟩, prog_5_method_3_code, 2, none)
def I_Se_init : j_I := (⟨"DogJudge$Seen", "<init>", "()V"⟩, prog_6_method_1_code, 1, none)
def I_Se_clear : j_I := (⟨"DogJudge$Seen", "clear", "()V"⟩, prog_6_method_2_code, 2, none)
def I_Se_add : j_I := (⟨"DogJudge$Seen", "add", "(II)V"⟩, prog_6_method_3_code, 3, none)
def I_Se_allows : j_I := (⟨"DogJudge$Seen", "allows", "(II)Z"⟩, prog_6_method_4_code, 3, (some .boolean))
def I_Sh_init : j_I := (⟨"DogJudge$Sheets", "<init>", "()V"⟩, prog_7_method_1_code, 2, none)
def I_Sh_isPlace : j_I := (⟨"DogJudge$Sheets", "isPlace", "(I)Z"⟩, prog_7_method_2_code, 2, (some .boolean))
def I_Sh_isForm : j_I := (⟨"DogJudge$Sheets", "isForm", "(I)Z"⟩, prog_7_method_3_code, 2, (some .boolean))
def I_Sh_isLost : j_I := (⟨"DogJudge$Sheets", "isLost", "(I)Z"⟩, prog_7_method_4_code, 2, (some .boolean))
def I_Sh_find : j_I := (⟨"DogJudge$Sheets", "find", "(I)I"⟩, prog_7_method_5_code, 2, (some .int))
def I_Sh_renew : j_I := (⟨"DogJudge$Sheets", "renew", "(III)V"⟩, prog_7_method_6_code, 5, none)
def I_Sh_findingAt : j_I := (⟨"DogJudge$Sheets", "findingAt", "(III)I"⟩, prog_7_method_7_code, 4, (some .int))
def I_Sh_hasRun : j_I := (⟨"DogJudge$Sheets", "hasRun", "(III)Z"⟩, prog_7_method_8_code, 4, (some .boolean))
def I_Sh_fit : j_I := (⟨"DogJudge$Sheets", "fit", "(II)I"⟩, prog_7_method_9_code, 3, (some .int))
def I_Su_init : j_I := (⟨"DogJudge$Suits", "<init>", "(LDogJudge$Court;)V"⟩, prog_8_method_1_code, 2, none)
def I_Su_plead : j_I := (⟨"DogJudge$Suits", "plead", "([III)V"⟩, prog_8_method_2_code, 5, none)
def I_Su_seek : j_I := (⟨"DogJudge$Suits", "seek", "(LDogJudge$Suits;III)Z"⟩, prog_8_method_3_code, 8, (some .boolean))
def I_Su_isFoundAfter : j_I := (⟨"DogJudge$Suits", "isFoundAfter", "(LDogJudge$Mood;I)Z"⟩, prog_8_method_4_code, 4, (some .boolean))
def I_Tu_init : j_I := (⟨"DogJudge$Turns", "<init>", "(LDogJudge$Court;)V"⟩, prog_9_method_1_code, 2, none)
def I_Tu_leastThatWins : j_I := (⟨"DogJudge$Turns", "leastThatWins", "([IIII)I"⟩, prog_9_method_2_code, 6, (some .int))
def I_Tu_winsBy : j_I := (⟨"DogJudge$Turns", "winsBy", "(II)Z"⟩, prog_9_method_3_code, 4, (some .boolean))
def I_Tu_winsFrom : j_I := (⟨"DogJudge$Turns", "winsFrom", "(I)Z"⟩, prog_9_method_4_code, 4, (some .boolean))
def I_Vi_init : j_I := (⟨"DogJudge$Visits", "<init>", "()V"⟩, prog_10_method_1_code, 1, none)
def I_Vi_tell : j_I := (⟨"DogJudge$Visits", "tell", "(III)V"⟩, prog_10_method_2_code, 6, none)
def I_Vi_untell : j_I := (⟨"DogJudge$Visits", "untell", "()V"⟩, prog_10_method_3_code, 3, none)
def I_Vi_heirAt : j_I := (⟨"DogJudge$Visits", "heirAt", "(I)I"⟩, prog_10_method_4_code, 2, (some .int))
def I_Vi_thingAt : j_I := (⟨"DogJudge$Visits", "thingAt", "(I)I"⟩, prog_10_method_5_code, 2, (some .int))
def I_L_law : j_I := (⟨"DogJudgeLaw", "law", "([I)Z"⟩, code, 4, (some .boolean))
