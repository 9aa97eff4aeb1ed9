/-! constructors: tables -/
def cm_y (ci : Nat) : MethodName := match ci with
  | 0 => ⟨"ChipFlow$Board", "<init>", "()V"⟩
  | 1 => ⟨"ChipFlow$Builder", "<init>", "(LChipFlow$Reader;)V"⟩
  | 2 => ⟨"ChipFlow$Chip", "<init>", "()V"⟩
  | 3 => ⟨"ChipFlow$Design", "<init>", "()V"⟩
  | 4 => ⟨"ChipFlow$Layout", "<init>", "()V"⟩
  | 5 => ⟨"ChipFlow$Library", "<init>", "()V"⟩
  | 6 => ⟨"ChipFlow$Mapper", "<init>", "()V"⟩
  | 7 => ⟨"ChipFlow$Reader", "<init>", "(LChipFlow$Text;)V"⟩
  | 8 => ⟨"ChipFlow$Router", "<init>", "()V"⟩
  | 9 => ⟨"ChipFlow$Tester", "<init>", "()V"⟩
  | 10 => ⟨"ChipFlow$Text", "<init>", "()V"⟩
  | 11 => ⟨"ChipFlow$Times", "<init>", "()V"⟩
  | 12 => ⟨"ChipFlow", "<init>", "()V"⟩
  | 13 => ⟨"ChipFlowModel", "<init>", "()V"⟩
  | _ => ⟨"", "", ""⟩
def cm_b (ci : Nat) : ByteArray := match ci with
  | 0 => prog_2_method_1_code
  | 1 => prog_3_method_1_code
  | 2 => prog_4_method_1_code
  | 3 => prog_5_method_1_code
  | 4 => prog_6_method_1_code
  | 5 => prog_7_method_1_code
  | 6 => prog_8_method_1_code
  | 7 => prog_9_method_1_code
  | 8 => prog_10_method_1_code
  | 9 => prog_11_method_1_code
  | 10 => prog_12_method_1_code
  | 11 => prog_13_method_1_code
  | 12 => prog_1_method_1_code
  | 13 => prog_15_method_2_code
  | _ => ⟨#[]⟩
def cm_m (ci : Nat) : Nat := match ci with
  | 0 => 1
  | 1 => 2
  | 2 => 1
  | 3 => 1
  | 4 => 1
  | 5 => 1
  | 6 => 1
  | 7 => 2
  | 8 => 1
  | 9 => 1
  | 10 => 1
  | 11 => 1
  | 12 => 2
  | 13 => 1
  | _ => 0
def cm_oi (ci : Nat) : Nat := match ci with
  | 0 => 9
  | 1 => 7
  | 2 => 7
  | 3 => 3
  | 4 => 3
  | 5 => 3
  | 6 => 3
  | 7 => 3
  | 8 => 3
  | 9 => 5
  | 10 => 1
  | 11 => 5
  | 12 => 1
  | 13 => 7
  | _ => 0
def cm_pe (ci : Nat) : Nat := match ci with
  | 0 => 122
  | 1 => 77
  | 2 => 95
  | 3 => 56
  | 4 => 67
  | 5 => 36
  | 6 => 137
  | 7 => 104
  | 8 => 67
  | 9 => 57
  | 10 => 12
  | 11 => 100
  | 12 => 238
  | 13 => 1500
  | _ => 0
def cm_T0 : List (Nat × Nat × Nat × Nat × Nat × Nat × Nat × Nat × Nat × Nat) := [(0, 4, 2, 156, 0, 15, 3, 0, 0, 0), (0, 13, 2, 156, 0, 19, 4, 0, 0, 0), (0, 22, 2, 156, 0, 22, 5, 0, 0, 0), (0, 31, 2, 652, 0, 25, 6, 0, 0, 0), (0, 40, 2, 652, 0, 28, 7, 0, 0, 0), (0, 49, 2, 162, 0, 31, 8, 0, 0, 0), (0, 58, 2, 162, 0, 34, 9, 0, 0, 0), (0, 67, 2, 162, 0, 37, 10, 0, 0, 0), (0, 76, 2, 4712, 0, 40, 12, 0, 0, 0), (0, 85, 2, 4712, 0, 43, 13, 0, 0, 0), (0, 94, 2, 162, 0, 46, 14, 0, 0, 0), (2, 103, 1, 4, 49, 52, 15, 51, 0, 0), (0, 114, 1, 8, 0, 56, 17, 0, 0, 0)]
def cm_T1 : List (Nat × Nat × Nat × Nat × Nat × Nat × Nat × Nat × Nat × Nat) := [(0, 4, 3, 64320, 0, 16, 2, 15, 0, 0), (0, 12, 2, 4096, 0, 20, 4, 0, 0, 0), (0, 21, 2, 512, 0, 23, 5, 0, 0, 0), (0, 30, 2, 4096, 0, 26, 7, 0, 0, 0), (0, 39, 1, 16, 0, 29, 10, 0, 0, 0), (0, 47, 1, 16, 0, 32, 11, 0, 0, 0), (0, 55, 3, 64832, 3, 36, 12, 35, 0, 0), (0, 63, 2, 1013, 0, 40, 14, 0, 0, 0), (1, 72, 0, 0, 0, 43, 0, 0, 0, 0)]
def cm_T2 : List (Nat × Nat × Nat × Nat × Nat × Nat × Nat × Nat × Nat × Nat) := [(0, 4, 2, 4096, 0, 13, 6, 0, 0, 0), (2, 13, 1, 5, 17, 20, 7, 19, 0, 0), (0, 24, 2, 150, 0, 24, 9, 0, 0, 0), (0, 33, 2, 450, 0, 27, 10, 0, 0, 0), (0, 42, 1, 16, 0, 30, 11, 0, 0, 0), (0, 50, 1, 6, 0, 33, 12, 0, 0, 0), (0, 58, 1, 12, 0, 36, 13, 0, 0, 0), (0, 66, 2, 1224, 0, 39, 16, 0, 0, 0), (0, 75, 2, 1224, 0, 42, 17, 0, 0, 0), (2, 84, 1, 0, 45, 48, 18, 47, 0, 0)]
def cm_T3 : List (Nat × Nat × Nat × Nat × Nat × Nat × Nat × Nat × Nat × Nat) := [(0, 4, 2, 1013, 0, 9, 10, 0, 0, 0), (0, 13, 2, 1013, 0, 13, 11, 0, 0, 0), (0, 22, 2, 1013, 0, 16, 12, 0, 0, 0), (0, 31, 1, 16, 0, 19, 13, 0, 0, 0), (0, 39, 1, 6, 0, 22, 14, 0, 0, 0), (0, 47, 2, 4096, 0, 25, 15, 0, 0, 0)]
def cm_T4 : List (Nat × Nat × Nat × Nat × Nat × Nat × Nat × Nat × Nat × Nat) := [(0, 4, 2, 10000, 0, 11, 2, 0, 0, 0), (0, 13, 2, 162, 0, 17, 12, 0, 0, 0), (0, 22, 2, 2000, 0, 20, 13, 0, 0, 0), (0, 31, 2, 2000, 0, 23, 14, 0, 0, 0), (0, 40, 2, 652, 0, 28, 15, 0, 0, 0), (0, 49, 2, 2000, 0, 31, 16, 0, 0, 0), (0, 58, 2, 486, 3, 34, 17, 0, 0, 0)]
def cm_T5 : List (Nat × Nat × Nat × Nat × Nat × Nat × Nat × Nat × Nat × Nat) := [(0, 4, 1, 12, 0, 11, 3, 0, 0, 0), (0, 12, 1, 12, 0, 15, 4, 0, 0, 0), (0, 20, 1, 12, 0, 18, 5, 0, 0, 0), (0, 28, 1, 12, 0, 21, 6, 0, 0, 0)]
def cm_T6 : List (Nat × Nat × Nat × Nat × Nat × Nat × Nat × Nat × Nat × Nat) := [(0, 4, 2, 1013, 0, 11, 2, 0, 0, 0), (0, 13, 2, 1013, 0, 17, 3, 0, 0, 0), (0, 22, 2, 2026, 0, 20, 4, 0, 0, 0), (0, 31, 2, 2026, 0, 23, 5, 0, 0, 0), (0, 40, 2, 2026, 0, 26, 6, 0, 0, 0), (0, 49, 2, 6078, 0, 29, 7, 0, 0, 0), (0, 58, 2, 3072, 0, 32, 8, 0, 0, 0), (0, 67, 2, 1024, 0, 35, 9, 0, 0, 0), (0, 76, 2, 1024, 0, 38, 10, 0, 0, 0), (0, 85, 0, 4, 0, 41, 12, 0, 0, 0), (0, 92, 2, 576, 0, 46, 14, 0, 0, 0), (0, 101, 2, 1013, 0, 49, 15, 0, 0, 0), (0, 110, 2, 1013, 0, 52, 16, 0, 0, 0), (0, 119, 2, 3039, 0, 55, 17, 0, 0, 0), (0, 128, 2, 3039, 0, 58, 18, 0, 0, 0)]
def cm_T7 : List (Nat × Nat × Nat × Nat × Nat × Nat × Nat × Nat × Nat × Nat) := [(0, 4, 3, 65536, 0, 12, 1, 11, 0, 0), (0, 12, 1, 16, 0, 18, 4, 0, 0, 0), (0, 20, 1, 17, 0, 21, 5, 0, 0, 0), (0, 28, 1, 17, 0, 24, 6, 0, 0, 0), (0, 36, 2, 640, 0, 27, 7, 0, 0, 0), (0, 45, 2, 640, 0, 30, 8, 0, 0, 0), (0, 54, 2, 640, 0, 33, 9, 0, 0, 0), (0, 63, 2, 640, 0, 36, 10, 0, 0, 0), (0, 72, 2, 488, 0, 39, 12, 0, 0, 0), (0, 81, 2, 488, 0, 42, 13, 0, 0, 0), (0, 90, 2, 488, 0, 45, 15, 0, 0, 0), (1, 99, 0, 0, 0, 48, 0, 0, 0, 0)]
def cm_T8 : List (Nat × Nat × Nat × Nat × Nat × Nat × Nat × Nat × Nat × Nat) := [(0, 4, 2, 4712, 0, 11, 3, 0, 0, 0), (0, 13, 2, 4712, 0, 17, 4, 0, 0, 0), (0, 22, 2, 4712, 0, 20, 5, 0, 0, 0), (0, 31, 2, 4712, 0, 23, 7, 0, 0, 0), (0, 40, 2, 4712, 0, 26, 9, 0, 0, 0), (0, 49, 2, 4712, 0, 29, 10, 0, 0, 0), (0, 58, 2, 162, 0, 34, 12, 0, 0, 0)]
def cm_T9 : List (Nat × Nat × Nat × Nat × Nat × Nat × Nat × Nat × Nat × Nat) := [(0, 4, 2, 10368, 3, 15, 4, 0, 0, 0), (0, 13, 2, 10368, 3, 19, 5, 0, 0, 0), (0, 22, 2, 162, 0, 22, 6, 0, 0, 0), (0, 31, 3, 78336, 3, 27, 7, 26, 0, 0), (0, 39, 2, 1224, 0, 30, 8, 0, 0, 0), (0, 48, 2, 1224, 0, 33, 9, 0, 0, 0)]
def cm_T10 : List (Nat × Nat × Nat × Nat × Nat × Nat × Nat × Nat × Nat × Nat) := [(0, 4, 3, 65536, 1, 10, 0, 9, 0, 0)]
def cm_T11 : List (Nat × Nat × Nat × Nat × Nat × Nat × Nat × Nat × Nat × Nat) := [(0, 4, 2, 162, 0, 11, 0, 0, 0, 0), (0, 13, 2, 162, 0, 17, 1, 0, 0, 0), (0, 22, 2, 1944, 0, 22, 2, 0, 0, 0), (0, 31, 1, 41, 0, 25, 6, 0, 0, 0), (0, 39, 1, 41, 0, 28, 7, 0, 0, 0), (0, 47, 1, 41, 0, 31, 8, 0, 0, 0), (0, 55, 2, 6232, 0, 34, 9, 0, 0, 0), (0, 64, 2, 152, 0, 37, 10, 0, 0, 0), (0, 73, 2, 162, 0, 40, 17, 0, 0, 0), (0, 82, 2, 163, 0, 43, 18, 0, 0, 0), (0, 91, 2, 20000, 0, 46, 19, 0, 0, 0)]
def cm_T12 : List (Nat × Nat × Nat × Nat × Nat × Nat × Nat × Nat × Nat × Nat) := [(2, 4, 1, 10, 7, 10, 0, 9, 0, 0), (3, 15, 0, 7, 16, 21, 1, 18, 10, 0), (3, 30, 0, 1, 25, 30, 2, 27, 21, 1), (2, 45, 1, 6, 34, 37, 3, 36, 0, 0), (2, 56, 1, 8, 41, 44, 4, 43, 0, 0), (2, 67, 1, 11, 48, 51, 5, 50, 0, 0), (2, 78, 1, 9, 55, 58, 6, 57, 0, 0), (4, 89, 1, 6, 4, 64, 7, 68, 62, 3), (4, 125, 0, 3, 5, 71, 8, 75, 69, 5), (4, 159, 0, 4, 6, 78, 9, 82, 76, 2), (0, 193, 2, 4096, 0, 83, 11, 0, 0, 0), (0, 202, 2, 4096, 0, 87, 12, 0, 0, 0), (0, 211, 2, 4096, 0, 90, 13, 0, 0, 0), (0, 220, 2, 4096, 0, 93, 14, 0, 0, 0), (0, 229, 2, 4096, 0, 96, 15, 0, 0, 0)]
def cm_T13_0 : List (Nat × Nat × Nat × Nat × Nat × Nat × Nat × Nat × Nat × Nat) := [(0, 4, 3, 65536, 1, 14, 1, 13, 0, 0), (0, 12, 3, 65537, 1, 19, 4, 18, 0, 0), (0, 20, 3, 65537, 0, 22, 5, 18, 0, 0), (0, 28, 3, 65537, 0, 26, 6, 18, 0, 0), (0, 36, 3, 65537, 3, 29, 7, 18, 0, 0), (0, 44, 3, 65537, 0, 33, 8, 18, 0, 0), (0, 52, 1, 16, 0, 36, 13, 0, 0, 0), (0, 60, 1, 16, 0, 39, 14, 0, 0, 0), (0, 68, 1, 16, 0, 42, 15, 0, 0, 0), (0, 76, 2, 640, 0, 45, 16, 0, 0, 0), (0, 85, 2, 640, 0, 48, 17, 0, 0, 0), (0, 94, 2, 640, 0, 51, 18, 0, 0, 0), (0, 103, 2, 640, 0, 54, 19, 0, 0, 0), (0, 112, 2, 640, 2, 57, 20, 0, 0, 0), (0, 121, 1, 16, 0, 61, 21, 0, 0, 0)]
def cm_T13_1 : List (Nat × Nat × Nat × Nat × Nat × Nat × Nat × Nat × Nat × Nat) := [(0, 129, 1, 16, 0, 64, 22, 0, 0, 0), (0, 137, 1, 16, 0, 67, 23, 0, 0, 0), (0, 145, 1, 16, 0, 70, 24, 0, 0, 0), (0, 153, 2, 1024, 0, 73, 30, 0, 0, 0), (0, 162, 2, 1024, 0, 76, 31, 0, 0, 0), (0, 171, 2, 1024, 0, 79, 35, 0, 0, 0), (0, 180, 2, 8192, 0, 82, 36, 0, 0, 0), (0, 189, 2, 2048, 0, 85, 40, 0, 0, 0), (0, 198, 2, 2048, 0, 88, 41, 0, 0, 0), (0, 207, 2, 4096, 0, 91, 42, 0, 0, 0), (0, 216, 2, 2048, 0, 94, 43, 0, 0, 0), (0, 225, 2, 5120, 0, 97, 44, 0, 0, 0), (0, 234, 3, 204800, 0, 101, 45, 100, 0, 0), (0, 242, 1, 16, 0, 104, 46, 0, 0, 0), (0, 250, 1, 16, 0, 107, 47, 0, 0, 0)]
def cm_T13_2 : List (Nat × Nat × Nat × Nat × Nat × Nat × Nat × Nat × Nat × Nat) := [(0, 258, 1, 16, 0, 110, 48, 0, 0, 0), (0, 266, 1, 16, 0, 113, 49, 0, 0, 0), (0, 274, 2, 640, 0, 116, 50, 0, 0, 0), (0, 283, 2, 1024, 0, 119, 51, 0, 0, 0), (0, 292, 2, 320, 0, 122, 54, 0, 0, 0), (0, 301, 1, 6, 2, 125, 55, 0, 0, 0), (0, 309, 1, 6, 0, 128, 56, 0, 0, 0), (0, 317, 1, 6, 0, 131, 57, 0, 0, 0), (0, 325, 1, 6, 0, 134, 58, 0, 0, 0), (0, 333, 1, 6, 0, 137, 59, 0, 0, 0), (0, 341, 1, 6, 0, 140, 60, 0, 0, 0), (0, 349, 1, 6, 0, 143, 61, 0, 0, 0), (0, 357, 1, 6, 0, 146, 62, 0, 0, 0), (0, 365, 1, 6, 0, 149, 63, 0, 0, 0), (0, 373, 1, 6, 0, 152, 64, 0, 0, 0)]
def cm_T13_3 : List (Nat × Nat × Nat × Nat × Nat × Nat × Nat × Nat × Nat × Nat) := [(0, 381, 1, 6, 0, 155, 65, 0, 0, 0), (0, 389, 2, 12288, 0, 158, 66, 0, 0, 0), (0, 398, 2, 12288, 0, 161, 67, 0, 0, 0), (0, 407, 2, 12288, 0, 164, 68, 0, 0, 0), (0, 416, 1, 96, 0, 167, 69, 0, 0, 0), (0, 424, 1, 36, 0, 170, 70, 0, 0, 0), (0, 432, 2, 24576, 0, 173, 71, 0, 0, 0), (0, 441, 2, 24576, 0, 176, 72, 0, 0, 0), (0, 450, 3, 131072, 3, 180, 73, 179, 0, 0), (0, 458, 2, 2048, 0, 183, 74, 0, 0, 0), (0, 467, 2, 2048, 2, 186, 75, 0, 0, 0), (0, 476, 2, 2048, 0, 189, 76, 0, 0, 0), (0, 485, 1, 16, 0, 192, 77, 0, 0, 0), (0, 493, 1, 64, 2, 195, 78, 0, 0, 0), (0, 501, 0, 3, 0, 198, 81, 0, 0, 0)]
def cm_T13_4 : List (Nat × Nat × Nat × Nat × Nat × Nat × Nat × Nat × Nat × Nat) := [(0, 508, 1, 12, 0, 201, 82, 0, 0, 0), (0, 516, 1, 12, 0, 204, 84, 0, 0, 0), (0, 524, 1, 12, 0, 207, 85, 0, 0, 0), (0, 532, 1, 12, 0, 210, 86, 0, 0, 0), (0, 540, 1, 12, 0, 213, 87, 0, 0, 0), (0, 548, 0, 3, 2, 216, 88, 0, 0, 0), (0, 555, 0, 3, 0, 219, 89, 0, 0, 0), (0, 562, 1, 36, 0, 222, 90, 0, 0, 0), (0, 570, 1, 36, 0, 225, 91, 0, 0, 0), (0, 578, 1, 36, 0, 228, 92, 0, 0, 0), (0, 586, 1, 36, 0, 231, 93, 0, 0, 0), (0, 594, 2, 4200, 0, 234, 94, 0, 0, 0), (0, 603, 2, 4096, 0, 237, 96, 0, 0, 0), (0, 612, 2, 4096, 0, 240, 97, 0, 0, 0), (0, 621, 2, 4096, 0, 243, 98, 0, 0, 0)]
def cm_T13_5 : List (Nat × Nat × Nat × Nat × Nat × Nat × Nat × Nat × Nat × Nat) := [(0, 630, 2, 4096, 0, 246, 99, 0, 0, 0), (0, 639, 2, 4096, 0, 249, 100, 0, 0, 0), (0, 648, 2, 4096, 0, 252, 101, 0, 0, 0), (0, 657, 2, 4096, 0, 255, 102, 0, 0, 0), (0, 666, 2, 4096, 0, 258, 103, 0, 0, 0), (0, 675, 2, 4096, 2, 261, 104, 0, 0, 0), (0, 684, 2, 2048, 0, 264, 109, 0, 0, 0), (0, 693, 2, 2048, 0, 267, 110, 0, 0, 0), (0, 702, 2, 2048, 0, 270, 111, 0, 0, 0), (0, 711, 2, 2048, 2, 273, 112, 0, 0, 0), (0, 720, 2, 2048, 2, 276, 113, 0, 0, 0), (0, 729, 1, 64, 0, 279, 115, 0, 0, 0), (0, 737, 2, 192, 0, 282, 116, 0, 0, 0), (0, 746, 2, 4096, 0, 285, 117, 0, 0, 0), (0, 755, 2, 4096, 0, 288, 118, 0, 0, 0)]
def cm_T13_6 : List (Nat × Nat × Nat × Nat × Nat × Nat × Nat × Nat × Nat × Nat) := [(0, 764, 2, 12288, 0, 291, 119, 0, 0, 0), (0, 773, 2, 4096, 0, 294, 120, 0, 0, 0), (0, 782, 2, 4096, 0, 297, 121, 0, 0, 0), (0, 791, 2, 4096, 2, 300, 122, 0, 0, 0), (0, 800, 1, 8, 0, 303, 124, 0, 0, 0), (0, 808, 2, 2048, 0, 306, 125, 0, 0, 0), (0, 817, 2, 2048, 0, 309, 126, 0, 0, 0), (0, 826, 1, 64, 0, 312, 128, 0, 0, 0), (0, 834, 2, 8192, 0, 315, 130, 0, 0, 0), (0, 843, 2, 24576, 0, 318, 131, 0, 0, 0), (0, 852, 2, 4096, 0, 321, 132, 0, 0, 0), (0, 861, 2, 2048, 0, 324, 133, 0, 0, 0), (0, 870, 2, 8192, 0, 327, 135, 0, 0, 0), (0, 879, 2, 8192, 0, 330, 136, 0, 0, 0), (0, 888, 0, 4, 2, 333, 138, 0, 0, 0)]
def cm_T13_7 : List (Nat × Nat × Nat × Nat × Nat × Nat × Nat × Nat × Nat × Nat) := [(0, 895, 0, 4, 0, 336, 139, 0, 0, 0), (0, 902, 0, 4, 0, 339, 140, 0, 0, 0), (0, 909, 0, 4, 0, 342, 141, 0, 0, 0), (0, 916, 0, 4, 0, 345, 142, 0, 0, 0), (0, 923, 0, 4, 0, 348, 143, 0, 0, 0), (0, 930, 0, 4, 0, 351, 144, 0, 0, 0), (0, 937, 2, 600, 0, 354, 145, 0, 0, 0), (0, 946, 2, 1800, 0, 357, 146, 0, 0, 0), (0, 955, 1, 64, 0, 360, 147, 0, 0, 0), (0, 963, 1, 24, 0, 363, 148, 0, 0, 0), (0, 971, 0, 4, 0, 366, 149, 0, 0, 0), (0, 978, 1, 48, 0, 369, 150, 0, 0, 0), (0, 986, 1, 48, 0, 372, 151, 0, 0, 0), (0, 994, 1, 48, 0, 375, 152, 0, 0, 0), (0, 1002, 1, 48, 0, 378, 153, 0, 0, 0)]
def cm_T13_8 : List (Nat × Nat × Nat × Nat × Nat × Nat × Nat × Nat × Nat × Nat) := [(0, 1010, 2, 256, 3, 381, 154, 0, 0, 0), (0, 1019, 0, 4, 0, 384, 155, 0, 0, 0), (0, 1026, 0, 4, 0, 387, 156, 0, 0, 0), (0, 1033, 2, 624, 0, 390, 157, 0, 0, 0), (0, 1042, 2, 624, 0, 393, 158, 0, 0, 0), (0, 1051, 2, 700, 0, 396, 160, 0, 0, 0), (0, 1060, 2, 700, 0, 399, 161, 0, 0, 0), (0, 1069, 2, 700, 0, 402, 162, 0, 0, 0), (0, 1078, 2, 256, 0, 405, 163, 0, 0, 0), (0, 1087, 2, 256, 0, 408, 164, 0, 0, 0), (0, 1096, 2, 256, 0, 411, 165, 0, 0, 0), (0, 1105, 2, 256, 0, 414, 166, 0, 0, 0), (0, 1114, 2, 256, 0, 417, 167, 0, 0, 0), (0, 1123, 0, 4, 2, 420, 168, 0, 0, 0), (0, 1130, 2, 18848, 0, 423, 169, 0, 0, 0)]
def cm_T13_9 : List (Nat × Nat × Nat × Nat × Nat × Nat × Nat × Nat × Nat × Nat) := [(0, 1139, 2, 18848, 2, 426, 170, 0, 0, 0), (0, 1148, 2, 18848, 2, 429, 171, 0, 0, 0), (0, 1157, 2, 18848, 2, 432, 172, 0, 0, 0), (0, 1166, 2, 1024, 2, 435, 173, 0, 0, 0), (0, 1175, 2, 4712, 0, 438, 178, 0, 0, 0), (0, 1184, 2, 4712, 0, 441, 179, 0, 0, 0), (0, 1193, 2, 4712, 0, 444, 180, 0, 0, 0), (0, 1202, 2, 4712, 2, 447, 181, 0, 0, 0), (0, 1211, 2, 4712, 0, 450, 182, 0, 0, 0), (0, 1220, 2, 256, 0, 453, 183, 0, 0, 0), (0, 1229, 0, 4, 2, 456, 185, 0, 0, 0), (0, 1236, 0, 4, 0, 459, 186, 0, 0, 0), (0, 1243, 4, 40000, 0, 463, 187, 462, 0, 0), (0, 1252, 2, 2700, 0, 466, 192, 0, 0, 0), (0, 1261, 3, 65536, 2, 469, 193, 13, 0, 0)]
def cm_T13_10 : List (Nat × Nat × Nat × Nat × Nat × Nat × Nat × Nat × Nat × Nat) := [(0, 1269, 2, 256, 2, 472, 194, 0, 0, 0), (0, 1278, 2, 2700, 2, 475, 195, 0, 0, 0), (0, 1287, 2, 256, 0, 478, 196, 0, 0, 0), (0, 1296, 2, 256, 0, 481, 197, 0, 0, 0), (0, 1305, 0, 4, 0, 484, 198, 0, 0, 0), (0, 1312, 2, 160, 0, 487, 199, 0, 0, 0), (0, 1321, 2, 160, 0, 490, 200, 0, 0, 0), (0, 1330, 2, 5632, 0, 493, 201, 0, 0, 0), (0, 1339, 4, 225280, 0, 497, 202, 496, 0, 0), (0, 1348, 4, 225280, 0, 500, 203, 496, 0, 0), (0, 1357, 4, 225280, 0, 503, 204, 496, 0, 0), (0, 1366, 2, 256, 0, 506, 205, 0, 0, 0), (0, 1375, 1, 40, 0, 509, 207, 0, 0, 0), (0, 1383, 1, 40, 0, 512, 208, 0, 0, 0), (0, 1391, 1, 40, 0, 515, 209, 0, 0, 0)]
def cm_T13_11 : List (Nat × Nat × Nat × Nat × Nat × Nat × Nat × Nat × Nat × Nat) := [(0, 1399, 2, 512, 0, 518, 210, 0, 0, 0), (0, 1408, 2, 256, 2, 521, 211, 0, 0, 0), (0, 1417, 2, 20010, 0, 524, 212, 0, 0, 0), (0, 1426, 2, 257, 0, 527, 213, 0, 0, 0), (0, 1435, 0, 3, 0, 530, 215, 0, 0, 0), (0, 1442, 0, 3, 2, 533, 216, 0, 0, 0), (0, 1449, 0, 4, 0, 536, 217, 0, 0, 0), (0, 1456, 2, 5120, 0, 539, 218, 0, 0, 0), (0, 1465, 2, 5120, 2, 542, 219, 0, 0, 0), (0, 1474, 4, 102400, 3, 546, 220, 545, 0, 0), (0, 1483, 1, 32, 3, 549, 223, 0, 0, 0), (0, 1491, 2, 5120, 0, 552, 224, 0, 0, 0)]
def cm_T13 : List (Nat × Nat × Nat × Nat × Nat × Nat × Nat × Nat × Nat × Nat) := cm_T13_0 ++ cm_T13_1 ++ cm_T13_2 ++ cm_T13_3 ++ cm_T13_4 ++ cm_T13_5 ++ cm_T13_6 ++ cm_T13_7 ++ cm_T13_8 ++ cm_T13_9 ++ cm_T13_10 ++ cm_T13_11
def cm_T (ci : Nat) : List (Nat × Nat × Nat × Nat × Nat × Nat × Nat × Nat × Nat × Nat) := match ci with
  | 0 => cm_T0
  | 1 => cm_T1
  | 2 => cm_T2
  | 3 => cm_T3
  | 4 => cm_T4
  | 5 => cm_T5
  | 6 => cm_T6
  | 7 => cm_T7
  | 8 => cm_T8
  | 9 => cm_T9
  | 10 => cm_T10
  | 11 => cm_T11
  | 12 => cm_T12
  | 13 => cm_T13
  | _ => []
def cm_nlL : List (Nat × Nat × Nat × Nat × Nat) := [(0, 51, 4, 3, 106), (2, 19, 5, 3, 97), (2, 47, 0, 3, 100), (12, 9, 10, 1, 46), (12, 36, 6, 1, 215), (12, 43, 8, 2, 39), (12, 50, 11, 2, 88), (12, 57, 9, 2, 156), (12, 68, 3, 2, 195), (12, 75, 5, 3, 45), (12, 82, 2, 3, 92)]
def cm_nl : List (Nat × Nat × Nat) := cm_nlL.map fun q => (q.1, q.2.1, q.2.2.1)
set_option maxRecDepth 100000 in
theorem cm_nl1 : cm_nlL.all (fun q => decide ((tb_K q.2.2.2.1)[q.2.2.2.2]? = some (Cond.methodLinkNest (sh_R q.1) q.2.1 (cm_y q.2.2.1) "ChipFlow"))) = true := by decide +kernel
def cm_pl0 : List (Nat × Nat × Nat × Nat × Nat) := [(12, 18, 7, 1, 88), (12, 27, 1, 1, 160), (14, 187, 12, 1, 38), (14, 190, 13, 12, 55)]
def cm_kwL : List (Nat × Nat × Nat × Nat × Nat) := [(1, 15, 64320, 1, 164), (1, 35, 64832, 1, 165), (7, 11, 65536, 1, 92), (9, 26, 78336, 2, 160), (10, 9, 65536, 1, 50), (13, 13, 65536, 12, 59), (13, 18, 65537, 12, 60), (13, 100, 204800, 12, 61), (13, 179, 131072, 12, 62), (13, 462, 40000, 12, 63), (13, 496, 225280, 12, 64), (13, 545, 102400, 12, 65)]
def cm_nwL : List (Nat × Nat × Nat × Nat × Nat) := [(0, 49, 4, 3, 104), (2, 17, 5, 3, 96), (2, 45, 0, 3, 98), (12, 7, 10, 1, 44), (12, 16, 7, 1, 86), (12, 25, 1, 1, 158), (12, 34, 6, 1, 213), (12, 41, 8, 2, 37), (12, 48, 11, 2, 86), (12, 55, 9, 2, 154), (12, 62, 3, 2, 192), (12, 69, 5, 3, 42), (12, 76, 2, 3, 89), (14, 8, 12, 1, 36), (14, 188, 13, 12, 53)]
/-- of each class: where its words stand: code, instance method, initialized, instantiable, the link to Object's own -/
def cm_cwL : List (Nat × (Nat × Nat) × (Nat × Nat) × (Nat × Nat) × (Nat × Nat) × (Nat × Nat)) := [(0, (3, 102), (3, 101), (1, 12), (3, 99), (3, 103)), (1, (1, 162), (1, 161), (1, 4), (1, 159), (1, 163)), (2, (3, 94), (3, 93), (1, 11), (3, 91), (3, 95)), (3, (2, 197), (2, 196), (1, 9), (2, 194), (2, 198)), (4, (3, 108), (3, 107), (1, 13), (3, 105), (3, 109)), (5, (3, 47), (3, 46), (1, 10), (3, 44), (3, 48)), (6, (1, 217), (1, 216), (1, 5), (1, 214), (1, 218)), (7, (1, 90), (1, 89), (1, 3), (1, 87), (1, 91)), (8, (2, 41), (2, 40), (1, 6), (2, 38), (2, 42)), (9, (2, 158), (2, 157), (1, 8), (2, 155), (2, 159)), (10, (1, 48), (1, 47), (1, 2), (1, 45), (1, 49)), (11, (2, 90), (2, 89), (1, 7), (2, 87), (2, 91)), (12, (1, 40), (1, 39), (1, 1), (1, 37), (1, 41)), (13, (12, 57), (12, 56), (1, 14), (12, 54), (12, 58))]
set_option maxRecDepth 20000 in
theorem cm_code0 : Cond.code (cm_y 0) (cm_b 0) (cm_m 0) none ∈ BG := wb (k := 3) (i := 102) rfl rfl
set_option maxRecDepth 20000 in
theorem cm_code1 : Cond.code (cm_y 1) (cm_b 1) (cm_m 1) none ∈ BG := wb (k := 1) (i := 162) rfl rfl
set_option maxRecDepth 20000 in
theorem cm_code2 : Cond.code (cm_y 2) (cm_b 2) (cm_m 2) none ∈ BG := wb (k := 3) (i := 94) rfl rfl
set_option maxRecDepth 20000 in
theorem cm_code3 : Cond.code (cm_y 3) (cm_b 3) (cm_m 3) none ∈ BG := wb (k := 2) (i := 197) rfl rfl
set_option maxRecDepth 20000 in
theorem cm_code4 : Cond.code (cm_y 4) (cm_b 4) (cm_m 4) none ∈ BG := wb (k := 3) (i := 108) rfl rfl
set_option maxRecDepth 20000 in
theorem cm_code5 : Cond.code (cm_y 5) (cm_b 5) (cm_m 5) none ∈ BG := wb (k := 3) (i := 47) rfl rfl
set_option maxRecDepth 20000 in
theorem cm_code6 : Cond.code (cm_y 6) (cm_b 6) (cm_m 6) none ∈ BG := wb (k := 1) (i := 217) rfl rfl
set_option maxRecDepth 20000 in
theorem cm_code7 : Cond.code (cm_y 7) (cm_b 7) (cm_m 7) none ∈ BG := wb (k := 1) (i := 90) rfl rfl
set_option maxRecDepth 20000 in
theorem cm_code8 : Cond.code (cm_y 8) (cm_b 8) (cm_m 8) none ∈ BG := wb (k := 2) (i := 41) rfl rfl
set_option maxRecDepth 20000 in
theorem cm_code9 : Cond.code (cm_y 9) (cm_b 9) (cm_m 9) none ∈ BG := wb (k := 2) (i := 158) rfl rfl
set_option maxRecDepth 20000 in
theorem cm_code10 : Cond.code (cm_y 10) (cm_b 10) (cm_m 10) none ∈ BG := wb (k := 1) (i := 48) rfl rfl
set_option maxRecDepth 20000 in
theorem cm_code11 : Cond.code (cm_y 11) (cm_b 11) (cm_m 11) none ∈ BG := wb (k := 2) (i := 90) rfl rfl
set_option maxRecDepth 20000 in
theorem cm_code12 : Cond.code (cm_y 12) (cm_b 12) (cm_m 12) none ∈ BG := wb (k := 1) (i := 40) rfl rfl
set_option maxRecDepth 20000 in
theorem cm_code13 : Cond.code (cm_y 13) (cm_b 13) (cm_m 13) none ∈ BG := wb (k := 12) (i := 57) rfl rfl
theorem cm_codes {ci : Nat} (h : ci < 14) : Cond.code (cm_y ci) (cm_b ci) (cm_m ci) none ∈ BG := by
  rcases ci with _ | _ | _ | _ | _ | _ | _ | _ | _ | _ | _ | _ | _ | _ | ci
  · exact cm_code0
  · exact cm_code1
  · exact cm_code2
  · exact cm_code3
  · exact cm_code4
  · exact cm_code5
  · exact cm_code6
  · exact cm_code7
  · exact cm_code8
  · exact cm_code9
  · exact cm_code10
  · exact cm_code11
  · exact cm_code12
  · exact cm_code13
  · omega
set_option maxRecDepth 100000 in
theorem cm_cw1 : cm_cwL.all (fun q => decide ((tb_K q.2.2.1.1)[q.2.2.1.2]? = some (Cond.instanceMethod (cm_y q.1))) && decide ((tb_K q.2.2.2.1.1)[q.2.2.2.1.2]? = some (Cond.initialized (cm_y q.1).cls)) && decide ((tb_K q.2.2.2.2.1.1)[q.2.2.2.2.1.2]? = some (Cond.instantiable (sh_R q.1) (sh_kd q.1).2.2)) && decide ((tb_K q.2.2.2.2.2.1)[q.2.2.2.2.2.2]? = some (Cond.methodLink (sh_R q.1) (cm_oi q.1) Lib.objectInit))) = true := by decide +kernel
theorem cm_cw2 : cm_cwL.all (fun q => decide ((cm_y q.1).cls = sh_R q.1) && decide ((cm_y q.1).name = "<init>") && plainName (cm_y q.1).cls && decide ((cm_y q.1).cls ≠ "java/lang/invoke/MethodHandle") && decide ((cm_y q.1).cls ≠ "java/lang/invoke/VarHandle") && decide (q.1 < 14) && decide (1 ≤ cm_m q.1) && decide (cm_m q.1 ≤ 9)) = true := by decide +kernel
def cm_isc (ci : Nat) : Bool := cm_cwL.any fun q => decide (q.1 = ci)
theorem cm_isc_spec {ci : Nat} (h : cm_isc ci = true) : (Cond.code (cm_y ci) (cm_b ci) (cm_m ci) none ∈ BG ∧ Cond.instanceMethod (cm_y ci) ∈ BG ∧ Cond.initialized (cm_y ci).cls ∈ BG ∧ Cond.instantiable (sh_R ci) (sh_kd ci).2.2 ∈ BG ∧ Cond.methodLink (sh_R ci) (cm_oi ci) Lib.objectInit ∈ BG) ∧ (cm_y ci).cls = sh_R ci ∧ (cm_y ci).name = "<init>" ∧ plainName (cm_y ci).cls = true ∧ (cm_y ci).cls ≠ "java/lang/invoke/MethodHandle" ∧ (cm_y ci).cls ≠ "java/lang/invoke/VarHandle" ∧ ci < 14 ∧ 1 ≤ cm_m ci ∧ cm_m ci ≤ 9 := by
  obtain ⟨q, hq, h1⟩ := List.any_eq_true.mp h
  have e : q.1 = ci := of_decide_eq_true h1
  have h2 := List.all_eq_true.mp cm_cw1 q hq
  have h3 := List.all_eq_true.mp cm_cw2 q hq
  simp only [Bool.and_eq_true, decide_eq_true_eq] at h2 h3
  rw [e] at h2 h3
  obtain ⟨⟨⟨a2, a3⟩, a4⟩, a5⟩ := h2
  obtain ⟨⟨⟨⟨⟨⟨⟨b1, b2⟩, b3⟩, b4⟩, b5⟩, b6⟩, b7⟩, b8⟩ := h3
  exact ⟨⟨cm_codes b6, wb a2 rfl, wb a3 rfl, wb a4 rfl, wb a5 rfl⟩, b1, b2, b3, b4, b5, b6, b7, b8⟩
theorem cm_isc_all {k : Nat} (h : k < 14) : cm_isc k = true := List.all_eq_true.mp (show (List.range 14).all cm_isc = true by decide +kernel) k (List.mem_range.mpr h)
set_option maxRecDepth 100000 in
theorem cm_pl1 : cm_pl0.all (fun q => decide ((tb_K q.2.2.2.1)[q.2.2.2.2]? = some (Cond.methodLink (sh_R q.1) q.2.1 (cm_y q.2.2.1)))) = true := by decide +kernel
set_option maxRecDepth 100000 in
theorem cm_kw1 : cm_kwL.all (fun q => decide ((tb_K q.2.2.2.1)[q.2.2.2.2]? = some (Cond.constant (sh_R q.1) q.2.1 (Int32.ofInt (q.2.2.1 : Int))))) = true := by decide +kernel
set_option maxRecDepth 100000 in
theorem cm_nw1 : cm_nwL.all (fun q => decide ((tb_K q.2.2.2.1)[q.2.2.2.2]? = some (Cond.classLink (sh_R q.1) q.2.1 (sh_R q.2.2.1)))) = true := by decide +kernel
def cm_kw (own ix n : Nat) : Bool := cm_kwL.any fun q => decide (q.1 = own) && decide (q.2.1 = ix) && decide (q.2.2.1 = n)
theorem cm_kw_in {own ix n : Nat} (h : cm_kw own ix n = true) : Cond.constant (sh_R own) ix (Int32.ofInt (n : Int)) ∈ BG := by
  obtain ⟨q, hq, h1⟩ := List.any_eq_true.mp h
  simp only [Bool.and_eq_true, decide_eq_true_eq] at h1
  obtain ⟨⟨rfl, rfl⟩, rfl⟩ := h1
  exact wb (of_decide_eq_true (List.all_eq_true.mp cm_kw1 q hq)) rfl
def cm_nw (own ik ci : Nat) : Bool := (cm_nwL.any fun q => decide (q.1 = own) && decide (q.2.1 = ik) && decide (q.2.2.1 = ci)) && cm_isc ci
theorem cm_nw_spec {own ik ci : Nat} (h : cm_nw own ik ci = true) : Cond.classLink (sh_R own) ik (sh_R ci) ∈ BG ∧ Cond.instantiable (sh_R ci) (sh_kd ci).2.2 ∈ BG ∧ Cond.initialized (sh_R ci) ∈ BG ∧ ci < 14 := by
  unfold cm_nw at h
  rw [Bool.and_eq_true] at h
  obtain ⟨h1, h2⟩ := h
  obtain ⟨⟨a1, a2, a3, a4, a5⟩, b1, b2, b3, b4, b5, b6, b7, b8⟩ := cm_isc_spec h2
  obtain ⟨q, hq, h3⟩ := List.any_eq_true.mp h1
  simp only [Bool.and_eq_true, decide_eq_true_eq] at h3
  obtain ⟨⟨rfl, rfl⟩, rfl⟩ := h3
  exact ⟨wb (of_decide_eq_true (List.all_eq_true.mp cm_nw1 q hq)) rfl, a4, by rw [← b1]; exact a3, b6⟩
def cm_iw (pl own im ci na : Nat) : Bool := cm_isc ci && decide ((parseMethodDescriptor (cm_y ci).desc).map (fun d => d.parameters.length) = some na) && (if pl = 1 then decide ((own, im, ci) ∈ cm_nl) else cm_pl0.any fun q => decide (q.1 = own) && decide (q.2.1 = im) && decide (q.2.2.1 = ci))
theorem cm_iw_spec {pl own im ci na : Nat} (h : cm_iw pl own im ci na = true) : Cond.code (cm_y ci) (cm_b ci) (cm_m ci) none ∈ BG ∧ Cond.initialized (cm_y ci).cls ∈ BG ∧ Cond.instanceMethod (cm_y ci) ∈ BG ∧ ((cm_y ci).cls ≠ "java/lang/invoke/MethodHandle" ∧ (cm_y ci).cls ≠ "java/lang/invoke/VarHandle") ∧ (parseMethodDescriptor (cm_y ci).desc).map (fun d => d.parameters.length) = some na ∧ (cm_y ci).name = "<init>" ∧ (pl = 1 → (own, im, ci) ∈ cm_nl) ∧ (pl ≠ 1 → Cond.methodLink (sh_R own) im (cm_y ci) ∈ BG) ∧ cm_m ci ≤ 9 := by
  unfold cm_iw at h
  simp only [Bool.and_eq_true, decide_eq_true_eq] at h
  obtain ⟨⟨h1, h2⟩, h3⟩ := h
  obtain ⟨⟨a1, a2, a3, a4, a5⟩, b1, b2, b3, b4, b5, b6, b7, b8⟩ := cm_isc_spec h1
  refine ⟨a1, a3, a2, ⟨b4, b5⟩, h2, b2, fun q => ?_, fun q => ?_, b8⟩
  · rw [if_pos q] at h3
    exact of_decide_eq_true h3
  · rw [if_neg q] at h3
    obtain ⟨x, hx, h4⟩ := List.any_eq_true.mp h3
    simp only [Bool.and_eq_true, decide_eq_true_eq] at h4
    obtain ⟨⟨rfl, rfl⟩, rfl⟩ := h4
    exact wb (of_decide_eq_true (List.all_eq_true.mp cm_pl1 x hx)) rfl
theorem cm_wa0 : Cond.arrayClass (.int) ∈ BG := wb (k := 1) (i := 157) rfl rfl
theorem cm_wa1 : Cond.arrayClass (.byte) ∈ BG := wb (k := 1) (i := 85) rfl rfl
theorem cm_wa2 : Cond.arrayClass (.boolean) ∈ BG := wb (k := 15) (i := 21) rfl rfl
theorem cm_wa3 : Cond.arrayClass (.long) ∈ BG := wb (k := 1) (i := 212) rfl rfl
theorem cm_wo1 : Cond.instanceMethod Lib.objectInit ∈ BG := wb (k := 1) (i := 42) rfl rfl
theorem cm_wo2 : Cond.code Lib.objectInit ⟨#[0xb1]⟩ 1 none ∈ BG := wb (k := 1) (i := 43) rfl rfl
