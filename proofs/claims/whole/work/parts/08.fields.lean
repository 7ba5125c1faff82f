theorem sh_0 : shp 0 = .inl (7, [(3, 1, 0), (3, 2, 0), (3, 26, 0), (3, 69, 0), (3, 3, 0), (3, 85, 0), (3, 90, 0), (3, 24, 0), (3, 93, 0), (3, 68, 0), (3, 96, 0), (3, 97, 0), (0, 712, 0), (0, 713, 0), (1, 714, 0), (1, 715, 0)]) := rfl
theorem no_0 : 0 < NO := by decide
theorem sh_1 : shp 1 = .inr (3, 6, 700, 0) := rfl
theorem no_1 : 1 < NO := by decide
theorem sh_2 : shp 2 = .inr (3, 4, 701, 6) := rfl
theorem no_2 : 2 < NO := by decide
theorem sh_3 : shp 3 = .inr (5, 3, 704, 1) := rfl
theorem no_3 : 3 < NO := by decide
theorem sh_5 : shp 5 = .inr (0, 40, 400, 0) := rfl
theorem no_5 : 5 < NO := by decide
theorem sh_7 : shp 7 = .inr (0, 40, 400, 1) := rfl
theorem no_7 : 7 < NO := by decide
theorem sh_9 : shp 9 = .inr (0, 40, 400, 2) := rfl
theorem no_9 : 9 < NO := by decide
theorem sh_11 : shp 11 = .inr (0, 40, 400, 3) := rfl
theorem no_11 : 11 < NO := by decide
theorem sh_13 : shp 13 = .inr (0, 40, 400, 4) := rfl
theorem no_13 : 13 < NO := by decide
theorem sh_15 : shp 15 = .inr (0, 40, 400, 5) := rfl
theorem no_15 : 15 < NO := by decide
theorem sh_17 : shp 17 = .inr (0, 60, 400, 6) := rfl
theorem no_17 : 17 < NO := by decide
theorem sh_19 : shp 19 = .inr (0, 60, 400, 7) := rfl
theorem no_19 : 19 < NO := by decide
theorem sh_21 : shp 21 = .inr (0, 60, 400, 8) := rfl
theorem no_21 : 21 < NO := by decide
theorem sh_23 : shp 23 = .inr (0, 60, 400, 9) := rfl
theorem no_23 : 23 < NO := by decide
theorem sh_25 : shp 25 = .inr (0, 16, 400, 10) := rfl
theorem no_25 : 25 < NO := by decide
theorem sh_26 : shp 26 = .inl (3, [(3, 27, 0), (0, 301, 0)]) := rfl
theorem no_26 : 26 < NO := by decide
theorem sh_27 : shp 27 = .inr (6, 8, 300, 32) := rfl
theorem no_27 : 27 < NO := by decide
theorem sh_70 : shp 70 = .inr (4, 8, 200, 0) := rfl
theorem no_70 : 70 < NO := by decide
theorem sh_71 : shp 71 = .inr (1, 40, 201, 0) := rfl
theorem no_71 : 71 < NO := by decide
theorem sh_72 : shp 72 = .inr (0, 6, 202, 0) := rfl
theorem no_72 : 72 < NO := by decide
theorem sh_74 : shp 74 = .inr (4, 8, 200, 1) := rfl
theorem no_74 : 74 < NO := by decide
theorem sh_75 : shp 75 = .inr (1, 40, 201, 1) := rfl
theorem no_75 : 75 < NO := by decide
theorem sh_76 : shp 76 = .inr (0, 6, 202, 1) := rfl
theorem no_76 : 76 < NO := by decide
theorem sh_78 : shp 78 = .inr (4, 8, 200, 2) := rfl
theorem no_78 : 78 < NO := by decide
theorem sh_79 : shp 79 = .inr (1, 40, 201, 2) := rfl
theorem no_79 : 79 < NO := by decide
theorem sh_80 : shp 80 = .inr (0, 6, 202, 2) := rfl
theorem no_80 : 80 < NO := by decide
theorem sh_82 : shp 82 = .inr (4, 8, 200, 3) := rfl
theorem no_82 : 82 < NO := by decide
theorem sh_83 : shp 83 = .inr (1, 40, 201, 3) := rfl
theorem no_83 : 83 < NO := by decide
theorem sh_84 : shp 84 = .inr (0, 6, 202, 3) := rfl
theorem no_84 : 84 < NO := by decide
theorem sh_85 : shp 85 = .inl (6, [(3, 86, 0), (3, 87, 0), (3, 88, 0), (3, 89, 0), (1, 604, 0), (0, 605, 0)]) := rfl
theorem no_85 : 85 < NO := by decide
theorem sh_86 : shp 86 = .inr (1, 42, 600, 0) := rfl
theorem no_86 : 86 < NO := by decide
theorem sh_87 : shp 87 = .inr (0, 42, 601, 0) := rfl
theorem no_87 : 87 < NO := by decide
theorem sh_88 : shp 88 = .inr (1, 714, 602, 0) := rfl
theorem no_88 : 88 < NO := by decide
theorem sh_89 : shp 89 = .inr (0, 42, 603, 0) := rfl
theorem no_89 : 89 < NO := by decide
theorem sh_90 : shp 90 = .inl (0, [(3, 91, 0), (3, 92, 0), (0, 2, 0), (0, 3, 0), (0, 4, 0)]) := rfl
theorem no_90 : 90 < NO := by decide
theorem sh_91 : shp 91 = .inr (1, 1296, 0, 0) := rfl
theorem no_91 : 91 < NO := by decide
theorem sh_92 : shp 92 = .inr (0, 2048, 1, 0) := rfl
theorem no_92 : 92 < NO := by decide
theorem sh_93 : shp 93 = .inl (5, [(3, 94, 0), (3, 95, 0), (0, 502, 0), (5, 503, 0)]) := rfl
theorem no_93 : 93 < NO := by decide
theorem sh_94 : shp 94 = .inr (0, 8, 500, 0) := rfl
theorem no_94 : 94 < NO := by decide
theorem sh_95 : shp 95 = .inr (0, 8, 501, 0) := rfl
theorem no_95 : 95 < NO := by decide
theorem sh_96 : shp 96 = .inr (1, 61, 710, 0) := rfl
theorem no_96 : 96 < NO := by decide
theorem sh_97 : shp 97 = .inr (0, 6, 711, 0) := rfl
theorem no_97 : 97 < NO := by decide
theorem sh_98 : shp 98 = .inl (8, [(0, 800, 0), (3, 99, 0), (0, 802, 0), (1, 803, 0), (1, 804, 0), (3, 100, 0), (3, 101, 0), (3, 102, 0), (3, 103, 0), (3, 104, 0), (0, 810, 0), (3, 105, 0), (0, 812, 0), (0, 813, 0), (3, 106, 0), (3, 107, 0), (0, 816, 0), (3, 108, 0), (0, 818, 0), (3, 109, 0), (3, 110, 0), (3, 111, 0), (3, 112, 0), (0, 823, 0), (3, 113, 0), (3, 114, 0), (0, 826, 0), (3, 115, 0), (3, 116, 0), (3, 117, 0), (1, 830, 0)]) := rfl
theorem no_98 : 98 < NO := by decide
theorem sh_99 : shp 99 = .inr (0, 6, 801, 0) := rfl
theorem no_99 : 99 < NO := by decide
theorem sh_100 : shp 100 = .inr (0, 6, 805, 0) := rfl
theorem no_100 : 100 < NO := by decide
theorem sh_101 : shp 101 = .inr (0, 240, 806, 0) := rfl
theorem no_101 : 101 < NO := by decide
theorem sh_102 : shp 102 = .inr (0, 40, 807, 0) := rfl
theorem no_102 : 102 < NO := by decide
theorem sh_103 : shp 103 = .inr (0, 4, 808, 0) := rfl
theorem no_103 : 103 < NO := by decide
theorem sh_104 : shp 104 = .inr (0, 240, 809, 0) := rfl
theorem no_104 : 104 < NO := by decide
theorem sh_105 : shp 105 = .inr (0, 40, 811, 0) := rfl
theorem no_105 : 105 < NO := by decide
theorem sh_106 : shp 106 = .inr (0, 40, 814, 0) := rfl
theorem no_106 : 106 < NO := by decide
theorem sh_107 : shp 107 = .inr (0, 8, 815, 0) := rfl
theorem no_107 : 107 < NO := by decide
theorem sh_108 : shp 108 = .inr (0, 16, 817, 0) := rfl
theorem no_108 : 108 < NO := by decide
theorem sh_109 : shp 109 = .inr (0, 61, 819, 0) := rfl
theorem no_109 : 109 < NO := by decide
theorem sh_110 : shp 110 = .inr (0, 488, 820, 0) := rfl
theorem no_110 : 110 < NO := by decide
theorem sh_111 : shp 111 = .inr (0, 16, 821, 0) := rfl
theorem no_111 : 111 < NO := by decide
theorem sh_112 : shp 112 = .inr (0, 16, 822, 0) := rfl
theorem no_112 : 112 < NO := by decide
theorem sh_113 : shp 113 = .inr (1, 1296, 824, 0) := rfl
theorem no_113 : 113 < NO := by decide
theorem sh_114 : shp 114 = .inr (2, 64, 825, 0) := rfl
theorem no_114 : 114 < NO := by decide
theorem sh_115 : shp 115 = .inr (0, 6, 827, 0) := rfl
theorem no_115 : 115 < NO := by decide
theorem sh_116 : shp 116 = .inr (0, 680, 828, 0) := rfl
theorem no_116 : 116 < NO := by decide
theorem sh_117 : shp 117 = .inr (0, 2181, 829, 0) := rfl
theorem no_117 : 117 < NO := by decide
section FIELDS
variable {ρ : Type} {K : Mem × ρ → State → Prop} {X : GX} {M : MI} {σ : Mem} {pc pc' idx : Nat} {lv : List (Nat × Value)} {st : List Value} {o : Option (Mem × ρ)}
theorem gf_X0_0 (lk : FL M.2.2.1 idx "SetAsMeant$Alikes" "outs" "[J") (d : At M.1 pc (.getfield idx) 3 pc') (kk : GS K X M σ pc' lv (.ref (xad X (91)) :: st) o) : GS K X M σ pc lv (.ref (xad X (90)) :: st) o := g_getA sh_90 no_90 rfl inX0 0 (by decide) rfl rfl lk d kk
theorem gf_X0_1 (lk : FL M.2.2.1 idx "SetAsMeant$Alikes" "slots" "[I") (d : At M.1 pc (.getfield idx) 3 pc') (kk : GS K X M σ pc' lv (.ref (xad X (92)) :: st) o) : GS K X M σ pc lv (.ref (xad X (90)) :: st) o := g_getA sh_90 no_90 rfl inX0 1 (by decide) rfl rfl lk d kk
theorem gf_X0_2 (lk : FL M.2.2.1 idx "SetAsMeant$Alikes" "unlike" "I") (d : At M.1 pc (.getfield idx) 3 pc') (kk : GS K X M σ pc' lv (.int (σ.1 2 0 0) :: st) o) : GS K X M σ pc lv (.ref (xad X (90)) :: st) o := g_getA sh_90 no_90 rfl inX0 2 (by decide) rfl rfl lk d kk
theorem pf_X0_2 {v : Int32} (lk : FL M.2.2.1 idx "SetAsMeant$Alikes" "unlike" "I") (d : At M.1 pc (.putfield idx) 3 pc') (kk : GS K X M (uI σ 2 0 0 v) pc' lv st o) : GS K X M σ pc lv (.int v :: .ref (xad X (90)) :: st) o := g_putA sh_90 no_90 rfl inX0 tyX0_ok nmX0 2 (by decide) rfl rfl rfl (Nat.le_of_ble_eq_true rfl) (fun ca ad _ => wld_putI no_90 sh_90 rfl (Or.inl rfl)) lk d kk
theorem gf_X0_3 (lk : FL M.2.2.1 idx "SetAsMeant$Alikes" "firstTwin" "I") (d : At M.1 pc (.getfield idx) 3 pc') (kk : GS K X M σ pc' lv (.int (σ.1 3 0 0) :: st) o) : GS K X M σ pc lv (.ref (xad X (90)) :: st) o := g_getA sh_90 no_90 rfl inX0 3 (by decide) rfl rfl lk d kk
theorem pf_X0_3 {v : Int32} (lk : FL M.2.2.1 idx "SetAsMeant$Alikes" "firstTwin" "I") (d : At M.1 pc (.putfield idx) 3 pc') (kk : GS K X M (uI σ 3 0 0 v) pc' lv st o) : GS K X M σ pc lv (.int v :: .ref (xad X (90)) :: st) o := g_putA sh_90 no_90 rfl inX0 tyX0_ok nmX0 3 (by decide) rfl rfl rfl (Nat.le_of_ble_eq_true rfl) (fun ca ad _ => wld_putI no_90 sh_90 rfl (Or.inl rfl)) lk d kk
theorem gf_X0_4 (lk : FL M.2.2.1 idx "SetAsMeant$Alikes" "secondTwin" "I") (d : At M.1 pc (.getfield idx) 3 pc') (kk : GS K X M σ pc' lv (.int (σ.1 4 0 0) :: st) o) : GS K X M σ pc lv (.ref (xad X (90)) :: st) o := g_getA sh_90 no_90 rfl inX0 4 (by decide) rfl rfl lk d kk
theorem pf_X0_4 {v : Int32} (lk : FL M.2.2.1 idx "SetAsMeant$Alikes" "secondTwin" "I") (d : At M.1 pc (.putfield idx) 3 pc') (kk : GS K X M (uI σ 4 0 0 v) pc' lv st o) : GS K X M σ pc lv (.int v :: .ref (xad X (90)) :: st) o := g_putA sh_90 no_90 rfl inX0 tyX0_ok nmX0 4 (by decide) rfl rfl rfl (Nat.le_of_ble_eq_true rfl) (fun ca ad _ => wld_putI no_90 sh_90 rfl (Or.inl rfl)) lk d kk
theorem gf_X1_0 {r : Nat} (h : r < 41) (lk : FL M.2.2.1 idx "SetAsMeant$Law" "kind" "I") (d : At M.1 pc (.getfield idx) 3 pc') (kk : GS K X M σ pc' lv (.int (σ.1 100 r 0) :: st) o) : GS K X M σ pc lv (.ref (xad X (28 + r)) :: st) o := g_getA (sh_X1 h) (no_X1 h) rfl inX1 0 (by decide) rfl rfl lk d kk
theorem pf_X1_0 {r : Nat} (h : r < 41) {v : Int32} (lk : FL M.2.2.1 idx "SetAsMeant$Law" "kind" "I") (d : At M.1 pc (.putfield idx) 3 pc') (kk : GS K X M (uI σ 100 r 0 v) pc' lv st o) : GS K X M σ pc lv (.int v :: .ref (xad X (28 + r)) :: st) o := g_putA (sh_X1 h) (no_X1 h) rfl inX1 tyX1_ok nmX1 0 (by decide) rfl rfl rfl (Nat.le_of_ble_eq_true rfl) (fun ca ad _ => wld_putI (no_X1 h) (sh_X1 h) rfl (Or.inl rfl)) lk d kk
theorem gf_X1_1 {r : Nat} (h : r < 41) (lk : FL M.2.2.1 idx "SetAsMeant$Law" "x" "I") (d : At M.1 pc (.getfield idx) 3 pc') (kk : GS K X M σ pc' lv (.int (σ.1 101 r 0) :: st) o) : GS K X M σ pc lv (.ref (xad X (28 + r)) :: st) o := g_getA (sh_X1 h) (no_X1 h) rfl inX1 1 (by decide) rfl rfl lk d kk
theorem pf_X1_1 {r : Nat} (h : r < 41) {v : Int32} (lk : FL M.2.2.1 idx "SetAsMeant$Law" "x" "I") (d : At M.1 pc (.putfield idx) 3 pc') (kk : GS K X M (uI σ 101 r 0 v) pc' lv st o) : GS K X M σ pc lv (.int v :: .ref (xad X (28 + r)) :: st) o := g_putA (sh_X1 h) (no_X1 h) rfl inX1 tyX1_ok nmX1 1 (by decide) rfl rfl rfl (Nat.le_of_ble_eq_true rfl) (fun ca ad _ => wld_putI (no_X1 h) (sh_X1 h) rfl (Or.inl rfl)) lk d kk
theorem gf_X1_2 {r : Nat} (h : r < 41) (lk : FL M.2.2.1 idx "SetAsMeant$Law" "y" "I") (d : At M.1 pc (.getfield idx) 3 pc') (kk : GS K X M σ pc' lv (.int (σ.1 102 r 0) :: st) o) : GS K X M σ pc lv (.ref (xad X (28 + r)) :: st) o := g_getA (sh_X1 h) (no_X1 h) rfl inX1 2 (by decide) rfl rfl lk d kk
theorem pf_X1_2 {r : Nat} (h : r < 41) {v : Int32} (lk : FL M.2.2.1 idx "SetAsMeant$Law" "y" "I") (d : At M.1 pc (.putfield idx) 3 pc') (kk : GS K X M (uI σ 102 r 0 v) pc' lv st o) : GS K X M σ pc lv (.int v :: .ref (xad X (28 + r)) :: st) o := g_putA (sh_X1 h) (no_X1 h) rfl inX1 tyX1_ok nmX1 2 (by decide) rfl rfl rfl (Nat.le_of_ble_eq_true rfl) (fun ca ad _ => wld_putI (no_X1 h) (sh_X1 h) rfl (Or.inl rfl)) lk d kk
theorem gf_X1_3 {r : Nat} (h : r < 41) (lk : FL M.2.2.1 idx "SetAsMeant$Law" "z" "I") (d : At M.1 pc (.getfield idx) 3 pc') (kk : GS K X M σ pc' lv (.int (σ.1 103 r 0) :: st) o) : GS K X M σ pc lv (.ref (xad X (28 + r)) :: st) o := g_getA (sh_X1 h) (no_X1 h) rfl inX1 3 (by decide) rfl rfl lk d kk
theorem pf_X1_3 {r : Nat} (h : r < 41) {v : Int32} (lk : FL M.2.2.1 idx "SetAsMeant$Law" "z" "I") (d : At M.1 pc (.putfield idx) 3 pc') (kk : GS K X M (uI σ 103 r 0 v) pc' lv st o) : GS K X M σ pc lv (.int v :: .ref (xad X (28 + r)) :: st) o := g_putA (sh_X1 h) (no_X1 h) rfl inX1 tyX1_ok nmX1 3 (by decide) rfl rfl rfl (Nat.le_of_ble_eq_true rfl) (fun ca ad _ => wld_putI (no_X1 h) (sh_X1 h) rfl (Or.inl rfl)) lk d kk
theorem gf_X1_4 {r : Nat} (h : r < 41) (lk : FL M.2.2.1 idx "SetAsMeant$Law" "isHushed" "Z") (d : At M.1 pc (.getfield idx) 3 pc') (kk : GS K X M σ pc' lv (.int (σ.1 104 r 0) :: st) o) : GS K X M σ pc lv (.ref (xad X (28 + r)) :: st) o := g_getA (sh_X1 h) (no_X1 h) rfl inX1 4 (by decide) rfl rfl lk d kk
theorem pf_X1_4 {r : Nat} (h : r < 41) {v : Int32} (lk : FL M.2.2.1 idx "SetAsMeant$Law" "isHushed" "Z") (d : At M.1 pc (.putfield idx) 3 pc') (kk : GS K X M (uI σ 104 r 0 v) pc' lv st o) : GS K X M σ pc lv (.int v :: .ref (xad X (28 + r)) :: st) (if v = 0 ∨ v = 1 then o else none) := g_guard (fun hv => g_putA (sh_X1 h) (no_X1 h) rfl inX1 tyX1_ok nmX1 4 (by decide) rfl (by rcases hv with rfl | rfl <;> rfl) (by rcases hv with rfl | rfl <;> rfl) (Nat.le_of_ble_eq_true rfl) (fun ca ad _ => wld_putI (no_X1 h) (sh_X1 h) rfl (Or.inr rfl)) lk d kk)
theorem gf_X2_0 {r : Nat} (h : r < 4) (lk : FL M.2.2.1 idx "SetAsMeant$Press" "laws" "[LSetAsMeant$Law;") (d : At M.1 pc (.getfield idx) 3 pc') (kk : GS K X M σ pc' lv (.ref (xad X (70 + 4 * r)) :: st) o) : GS K X M σ pc lv (.ref (xad X (69 + 4 * r)) :: st) o := g_getA (sh_X2 h) (no_X2 h) rfl inX2 0 (by decide) rfl rfl lk d kk
theorem gf_X2_1 {r : Nat} (h : r < 4) (lk : FL M.2.2.1 idx "SetAsMeant$Press" "deeds" "[J") (d : At M.1 pc (.getfield idx) 3 pc') (kk : GS K X M σ pc' lv (.ref (xad X (71 + 4 * r)) :: st) o) : GS K X M σ pc lv (.ref (xad X (69 + 4 * r)) :: st) o := g_getA (sh_X2 h) (no_X2 h) rfl inX2 1 (by decide) rfl rfl lk d kk
theorem gf_X2_2 {r : Nat} (h : r < 4) (lk : FL M.2.2.1 idx "SetAsMeant$Press" "inks" "[I") (d : At M.1 pc (.getfield idx) 3 pc') (kk : GS K X M σ pc' lv (.ref (xad X (72 + 4 * r)) :: st) o) : GS K X M σ pc lv (.ref (xad X (69 + 4 * r)) :: st) o := g_getA (sh_X2 h) (no_X2 h) rfl inX2 2 (by decide) rfl rfl lk d kk
theorem gf_X2_3 {r : Nat} (h : r < 4) (lk : FL M.2.2.1 idx "SetAsMeant$Press" "size" "I") (d : At M.1 pc (.getfield idx) 3 pc') (kk : GS K X M σ pc' lv (.int (σ.1 203 r 0) :: st) o) : GS K X M σ pc lv (.ref (xad X (69 + 4 * r)) :: st) o := g_getA (sh_X2 h) (no_X2 h) rfl inX2 3 (by decide) rfl rfl lk d kk
theorem pf_X2_3 {r : Nat} (h : r < 4) {v : Int32} (lk : FL M.2.2.1 idx "SetAsMeant$Press" "size" "I") (d : At M.1 pc (.putfield idx) 3 pc') (kk : GS K X M (uI σ 203 r 0 v) pc' lv st o) : GS K X M σ pc lv (.int v :: .ref (xad X (69 + 4 * r)) :: st) o := g_putA (sh_X2 h) (no_X2 h) rfl inX2 tyX2_ok nmX2 3 (by decide) rfl rfl rfl (Nat.le_of_ble_eq_true rfl) (fun ca ad _ => wld_putI (no_X2 h) (sh_X2 h) rfl (Or.inl rfl)) lk d kk
theorem gf_X2_4 {r : Nat} (h : r < 4) (lk : FL M.2.2.1 idx "SetAsMeant$Press" "done" "I") (d : At M.1 pc (.getfield idx) 3 pc') (kk : GS K X M σ pc' lv (.int (σ.1 204 r 0) :: st) o) : GS K X M σ pc lv (.ref (xad X (69 + 4 * r)) :: st) o := g_getA (sh_X2 h) (no_X2 h) rfl inX2 4 (by decide) rfl rfl lk d kk
theorem pf_X2_4 {r : Nat} (h : r < 4) {v : Int32} (lk : FL M.2.2.1 idx "SetAsMeant$Press" "done" "I") (d : At M.1 pc (.putfield idx) 3 pc') (kk : GS K X M (uI σ 204 r 0 v) pc' lv st o) : GS K X M σ pc lv (.int v :: .ref (xad X (69 + 4 * r)) :: st) o := g_putA (sh_X2 h) (no_X2 h) rfl inX2 tyX2_ok nmX2 4 (by decide) rfl rfl rfl (Nat.le_of_ble_eq_true rfl) (fun ca ad _ => wld_putI (no_X2 h) (sh_X2 h) rfl (Or.inl rfl)) lk d kk
theorem gf_X3_0 (lk : FL M.2.2.1 idx "SetAsMeant$Reader" "items" "[LSetAsMeant$Law;") (d : At M.1 pc (.getfield idx) 3 pc') (kk : GS K X M σ pc' lv (.ref (xad X (27)) :: st) o) : GS K X M σ pc lv (.ref (xad X (26)) :: st) o := g_getA sh_26 no_26 rfl inX3 0 (by decide) rfl rfl lk d kk
theorem gf_X3_1 (lk : FL M.2.2.1 idx "SetAsMeant$Reader" "size" "I") (d : At M.1 pc (.getfield idx) 3 pc') (kk : GS K X M σ pc' lv (.int (σ.1 301 0 0) :: st) o) : GS K X M σ pc lv (.ref (xad X (26)) :: st) o := g_getA sh_26 no_26 rfl inX3 1 (by decide) rfl rfl lk d kk
theorem pf_X3_1 {v : Int32} (lk : FL M.2.2.1 idx "SetAsMeant$Reader" "size" "I") (d : At M.1 pc (.putfield idx) 3 pc') (kk : GS K X M (uI σ 301 0 0 v) pc' lv st o) : GS K X M σ pc lv (.int v :: .ref (xad X (26)) :: st) o := g_putA sh_26 no_26 rfl inX3 tyX3_ok nmX3 1 (by decide) rfl rfl rfl (Nat.le_of_ble_eq_true rfl) (fun ca ad _ => wld_putI no_26 sh_26 rfl (Or.inl rfl)) lk d kk
theorem gf_X4_0 {r : Nat} (h : r < 11) (lk : FL M.2.2.1 idx "SetAsMeant$Row" "cells" "[I") (d : At M.1 pc (.getfield idx) 3 pc') (kk : GS K X M σ pc' lv (.ref (xad X (5 + 2 * r)) :: st) o) : GS K X M σ pc lv (.ref (xad X (4 + 2 * r)) :: st) o := g_getA (sh_X4 h) (no_X4 h) rfl inX4 0 (by decide) rfl rfl lk d kk
theorem gf_X4_1 {r : Nat} (h : r < 11) (lk : FL M.2.2.1 idx "SetAsMeant$Row" "size" "I") (d : At M.1 pc (.getfield idx) 3 pc') (kk : GS K X M σ pc' lv (.int (σ.1 401 r 0) :: st) o) : GS K X M σ pc lv (.ref (xad X (4 + 2 * r)) :: st) o := g_getA (sh_X4 h) (no_X4 h) rfl inX4 1 (by decide) rfl rfl lk d kk
theorem pf_X4_1 {r : Nat} (h : r < 11) {v : Int32} (lk : FL M.2.2.1 idx "SetAsMeant$Row" "size" "I") (d : At M.1 pc (.putfield idx) 3 pc') (kk : GS K X M (uI σ 401 r 0 v) pc' lv st o) : GS K X M σ pc lv (.int v :: .ref (xad X (4 + 2 * r)) :: st) o := g_putA (sh_X4 h) (no_X4 h) rfl inX4 tyX4_ok nmX4 1 (by decide) rfl rfl rfl (Nat.le_of_ble_eq_true rfl) (fun ca ad _ => wld_putI (no_X4 h) (sh_X4 h) rfl (Or.inl rfl)) lk d kk
theorem gf_X5_0 (lk : FL M.2.2.1 idx "SetAsMeant$Trial" "signs" "[I") (d : At M.1 pc (.getfield idx) 3 pc') (kk : GS K X M σ pc' lv (.ref (xad X (94)) :: st) o) : GS K X M σ pc lv (.ref (xad X (93)) :: st) o := g_getA sh_93 no_93 rfl inX5 0 (by decide) rfl rfl lk d kk
theorem gf_X5_1 (lk : FL M.2.2.1 idx "SetAsMeant$Trial" "holding" "[I") (d : At M.1 pc (.getfield idx) 3 pc') (kk : GS K X M σ pc' lv (.ref (xad X (95)) :: st) o) : GS K X M σ pc lv (.ref (xad X (93)) :: st) o := g_getA sh_93 no_93 rfl inX5 1 (by decide) rfl rfl lk d kk
theorem gf_X5_2 (lk : FL M.2.2.1 idx "SetAsMeant$Trial" "size" "I") (d : At M.1 pc (.getfield idx) 3 pc') (kk : GS K X M σ pc' lv (.int (σ.1 502 0 0) :: st) o) : GS K X M σ pc lv (.ref (xad X (93)) :: st) o := g_getA sh_93 no_93 rfl inX5 2 (by decide) rfl rfl lk d kk
theorem pf_X5_2 {v : Int32} (lk : FL M.2.2.1 idx "SetAsMeant$Trial" "size" "I") (d : At M.1 pc (.putfield idx) 3 pc') (kk : GS K X M (uI σ 502 0 0 v) pc' lv st o) : GS K X M σ pc lv (.int v :: .ref (xad X (93)) :: st) o := g_putA sh_93 no_93 rfl inX5 tyX5_ok nmX5 2 (by decide) rfl rfl rfl (Nat.le_of_ble_eq_true rfl) (fun ca ad _ => wld_putI no_93 sh_93 rfl (Or.inl rfl)) lk d kk
theorem gf_X5_3 (lk : FL M.2.2.1 idx "SetAsMeant$Trial" "press" "LSetAsMeant$Press;") (d : At M.1 pc (.getfield idx) 3 pc') (kk : GS K X M σ pc' lv (va_rf ((σ.2.2 503 0 0).map (fun x => xad X (69 + 4 * x))) :: st) o) : GS K X M σ pc lv (.ref (xad X (93)) :: st) o := g_getA sh_93 no_93 rfl inX5 3 (by decide) rfl rfl lk d kk
theorem pf_X5_3 {x : Nat} (lk : FL M.2.2.1 idx "SetAsMeant$Trial" "press" "LSetAsMeant$Press;") (d : At M.1 pc (.putfield idx) 3 pc') (kk : GS K X M (uR σ 503 0 0 (some x)) pc' lv st o) : GS K X M σ pc lv (.ref (xad X (69 + 4 * x)) :: .ref (xad X (93)) :: st) o := g_putA sh_93 no_93 rfl inX5 tyX5_ok nmX5 3 (by decide) rfl rfl rfl (Nat.le_of_ble_eq_true rfl) (fun ca ad e => by subst e; exact wld_putR no_93 sh_93 rfl) lk d kk
theorem gf_X6_0 (lk : FL M.2.2.1 idx "SetAsMeant$Writings" "pieces" "[J") (d : At M.1 pc (.getfield idx) 3 pc') (kk : GS K X M σ pc' lv (.ref (xad X (86)) :: st) o) : GS K X M σ pc lv (.ref (xad X (85)) :: st) o := g_getA sh_85 no_85 rfl inX6 0 (by decide) rfl rfl lk d kk
theorem gf_X6_1 (lk : FL M.2.2.1 idx "SetAsMeant$Writings" "sizes" "[I") (d : At M.1 pc (.getfield idx) 3 pc') (kk : GS K X M σ pc' lv (.ref (xad X (87)) :: st) o) : GS K X M σ pc lv (.ref (xad X (85)) :: st) o := g_getA sh_85 no_85 rfl inX6 1 (by decide) rfl rfl lk d kk
theorem gf_X6_2 (lk : FL M.2.2.1 idx "SetAsMeant$Writings" "ways" "[J") (d : At M.1 pc (.getfield idx) 3 pc') (kk : GS K X M σ pc' lv (.ref (xad X (88)) :: st) o) : GS K X M σ pc lv (.ref (xad X (85)) :: st) o := g_getA sh_85 no_85 rfl inX6 2 (by decide) rfl rfl lk d kk
theorem gf_X6_3 (lk : FL M.2.2.1 idx "SetAsMeant$Writings" "ends" "[I") (d : At M.1 pc (.getfield idx) 3 pc') (kk : GS K X M σ pc' lv (.ref (xad X (89)) :: st) o) : GS K X M σ pc lv (.ref (xad X (85)) :: st) o := g_getA sh_85 no_85 rfl inX6 3 (by decide) rfl rfl lk d kk
theorem gf_X6_4 (lk : FL M.2.2.1 idx "SetAsMeant$Writings" "aim" "J") (d : At M.1 pc (.getfield idx) 3 pc') (kk : GS K X M σ pc' lv (.long (σ.2.1 604 0 0) :: st) o) : GS K X M σ pc lv (.ref (xad X (85)) :: st) o := g_getA sh_85 no_85 rfl inX6 4 (by decide) rfl rfl lk d kk
theorem pf_X6_4 {v : Int64} (lk : FL M.2.2.1 idx "SetAsMeant$Writings" "aim" "J") (d : At M.1 pc (.putfield idx) 3 pc') (kk : GS K X M (uJ σ 604 0 0 v) pc' lv st o) : GS K X M σ pc lv (.long v :: .ref (xad X (85)) :: st) o := g_putA sh_85 no_85 rfl inX6 tyX6_ok nmX6 4 (by decide) rfl rfl rfl (Nat.le_of_ble_eq_true rfl) (fun ca ad _ => wld_putJ no_85 sh_85 rfl) lk d kk
theorem gf_X6_5 (lk : FL M.2.2.1 idx "SetAsMeant$Writings" "aimSize" "I") (d : At M.1 pc (.getfield idx) 3 pc') (kk : GS K X M σ pc' lv (.int (σ.1 605 0 0) :: st) o) : GS K X M σ pc lv (.ref (xad X (85)) :: st) o := g_getA sh_85 no_85 rfl inX6 5 (by decide) rfl rfl lk d kk
theorem pf_X6_5 {v : Int32} (lk : FL M.2.2.1 idx "SetAsMeant$Writings" "aimSize" "I") (d : At M.1 pc (.putfield idx) 3 pc') (kk : GS K X M (uI σ 605 0 0 v) pc' lv st o) : GS K X M σ pc lv (.int v :: .ref (xad X (85)) :: st) o := g_putA sh_85 no_85 rfl inX6 tyX6_ok nmX6 5 (by decide) rfl rfl rfl (Nat.le_of_ble_eq_true rfl) (fun ca ad _ => wld_putI no_85 sh_85 rfl (Or.inl rfl)) lk d kk
theorem gf_X7_0 (lk : FL M.2.2.1 idx "SetAsMeant" "rows" "[LSetAsMeant$Row;") (d : At M.1 pc (.getfield idx) 3 pc') (kk : GS K X M σ pc' lv (.ref (xad X (1)) :: st) o) : GS K X M σ pc lv (.ref (xad X (0)) :: st) o := g_getA sh_0 no_0 rfl inX7 0 (by decide) rfl rfl lk d kk
theorem gf_X7_1 (lk : FL M.2.2.1 idx "SetAsMeant" "texts" "[LSetAsMeant$Row;") (d : At M.1 pc (.getfield idx) 3 pc') (kk : GS K X M σ pc' lv (.ref (xad X (2)) :: st) o) : GS K X M σ pc lv (.ref (xad X (0)) :: st) o := g_getA sh_0 no_0 rfl inX7 1 (by decide) rfl rfl lk d kk
theorem gf_X7_2 (lk : FL M.2.2.1 idx "SetAsMeant" "reader" "LSetAsMeant$Reader;") (d : At M.1 pc (.getfield idx) 3 pc') (kk : GS K X M σ pc' lv (.ref (xad X (26)) :: st) o) : GS K X M σ pc lv (.ref (xad X (0)) :: st) o := g_getA sh_0 no_0 rfl inX7 2 (by decide) rfl rfl lk d kk
theorem gf_X7_3 (lk : FL M.2.2.1 idx "SetAsMeant" "now" "LSetAsMeant$Press;") (d : At M.1 pc (.getfield idx) 3 pc') (kk : GS K X M σ pc' lv (.ref (xad X (69 + 4 * 0)) :: st) o) : GS K X M σ pc lv (.ref (xad X (0)) :: st) o := g_getA sh_0 no_0 rfl inX7 3 (by decide) rfl rfl lk d kk
theorem gf_X7_4 (lk : FL M.2.2.1 idx "SetAsMeant" "kept" "[LSetAsMeant$Press;") (d : At M.1 pc (.getfield idx) 3 pc') (kk : GS K X M σ pc' lv (.ref (xad X (3)) :: st) o) : GS K X M σ pc lv (.ref (xad X (0)) :: st) o := g_getA sh_0 no_0 rfl inX7 4 (by decide) rfl rfl lk d kk
theorem gf_X7_5 (lk : FL M.2.2.1 idx "SetAsMeant" "writings" "LSetAsMeant$Writings;") (d : At M.1 pc (.getfield idx) 3 pc') (kk : GS K X M σ pc' lv (.ref (xad X (85)) :: st) o) : GS K X M σ pc lv (.ref (xad X (0)) :: st) o := g_getA sh_0 no_0 rfl inX7 5 (by decide) rfl rfl lk d kk
theorem gf_X7_6 (lk : FL M.2.2.1 idx "SetAsMeant" "alikes" "LSetAsMeant$Alikes;") (d : At M.1 pc (.getfield idx) 3 pc') (kk : GS K X M σ pc' lv (.ref (xad X (90)) :: st) o) : GS K X M σ pc lv (.ref (xad X (0)) :: st) o := g_getA sh_0 no_0 rfl inX7 6 (by decide) rfl rfl lk d kk
theorem gf_X7_7 (lk : FL M.2.2.1 idx "SetAsMeant" "scratch" "LSetAsMeant$Row;") (d : At M.1 pc (.getfield idx) 3 pc') (kk : GS K X M σ pc' lv (.ref (xad X (4 + 2 * 10)) :: st) o) : GS K X M σ pc lv (.ref (xad X (0)) :: st) o := g_getA sh_0 no_0 rfl inX7 7 (by decide) rfl rfl lk d kk
theorem gf_X7_8 (lk : FL M.2.2.1 idx "SetAsMeant" "trial" "LSetAsMeant$Trial;") (d : At M.1 pc (.getfield idx) 3 pc') (kk : GS K X M σ pc' lv (.ref (xad X (93)) :: st) o) : GS K X M σ pc lv (.ref (xad X (0)) :: st) o := g_getA sh_0 no_0 rfl inX7 8 (by decide) rfl rfl lk d kk
theorem gf_X7_9 (lk : FL M.2.2.1 idx "SetAsMeant" "spare" "LSetAsMeant$Law;") (d : At M.1 pc (.getfield idx) 3 pc') (kk : GS K X M σ pc' lv (.ref (xad X (28 + 40)) :: st) o) : GS K X M σ pc lv (.ref (xad X (0)) :: st) o := g_getA sh_0 no_0 rfl inX7 9 (by decide) rfl rfl lk d kk
theorem gf_X7_10 (lk : FL M.2.2.1 idx "SetAsMeant" "seen" "[J") (d : At M.1 pc (.getfield idx) 3 pc') (kk : GS K X M σ pc' lv (.ref (xad X (96)) :: st) o) : GS K X M σ pc lv (.ref (xad X (0)) :: st) o := g_getA sh_0 no_0 rfl inX7 10 (by decide) rfl rfl lk d kk
theorem gf_X7_11 (lk : FL M.2.2.1 idx "SetAsMeant" "answered" "[I") (d : At M.1 pc (.getfield idx) 3 pc') (kk : GS K X M σ pc' lv (.ref (xad X (97)) :: st) o) : GS K X M σ pc lv (.ref (xad X (0)) :: st) o := g_getA sh_0 no_0 rfl inX7 11 (by decide) rfl rfl lk d kk
theorem gf_X7_12 (lk : FL M.2.2.1 idx "SetAsMeant" "latest" "I") (d : At M.1 pc (.getfield idx) 3 pc') (kk : GS K X M σ pc' lv (.int (σ.1 712 0 0) :: st) o) : GS K X M σ pc lv (.ref (xad X (0)) :: st) o := g_getA sh_0 no_0 rfl inX7 12 (by decide) rfl rfl lk d kk
theorem pf_X7_12 {v : Int32} (lk : FL M.2.2.1 idx "SetAsMeant" "latest" "I") (d : At M.1 pc (.putfield idx) 3 pc') (kk : GS K X M (uI σ 712 0 0 v) pc' lv st o) : GS K X M σ pc lv (.int v :: .ref (xad X (0)) :: st) o := g_putA sh_0 no_0 rfl inX7 tyX7_ok nmX7 12 (by decide) rfl rfl rfl (Nat.le_of_ble_eq_true rfl) (fun ca ad _ => wld_putI no_0 sh_0 rfl (Or.inl rfl)) lk d kk
theorem gf_X7_13 (lk : FL M.2.2.1 idx "SetAsMeant" "told" "I") (d : At M.1 pc (.getfield idx) 3 pc') (kk : GS K X M σ pc' lv (.int (σ.1 713 0 0) :: st) o) : GS K X M σ pc lv (.ref (xad X (0)) :: st) o := g_getA sh_0 no_0 rfl inX7 13 (by decide) rfl rfl lk d kk
theorem pf_X7_13 {v : Int32} (lk : FL M.2.2.1 idx "SetAsMeant" "told" "I") (d : At M.1 pc (.putfield idx) 3 pc') (kk : GS K X M (uI σ 713 0 0 v) pc' lv st o) : GS K X M σ pc lv (.int v :: .ref (xad X (0)) :: st) o := g_putA sh_0 no_0 rfl inX7 tyX7_ok nmX7 13 (by decide) rfl rfl rfl (Nat.le_of_ble_eq_true rfl) (fun ca ad _ => wld_putI no_0 sh_0 rfl (Or.inl rfl)) lk d kk
theorem gf_X7_14 (lk : FL M.2.2.1 idx "SetAsMeant" "above" "J") (d : At M.1 pc (.getfield idx) 3 pc') (kk : GS K X M σ pc' lv (.long (σ.2.1 714 0 0) :: st) o) : GS K X M σ pc lv (.ref (xad X (0)) :: st) o := g_getA sh_0 no_0 rfl inX7 14 (by decide) rfl rfl lk d kk
theorem pf_X7_14 {v : Int64} (lk : FL M.2.2.1 idx "SetAsMeant" "above" "J") (d : At M.1 pc (.putfield idx) 3 pc') (kk : GS K X M (uJ σ 714 0 0 v) pc' lv st o) : GS K X M σ pc lv (.long v :: .ref (xad X (0)) :: st) o := g_putA sh_0 no_0 rfl inX7 tyX7_ok nmX7 14 (by decide) rfl rfl rfl (Nat.le_of_ble_eq_true rfl) (fun ca ad _ => wld_putJ no_0 sh_0 rfl) lk d kk
theorem gf_X7_15 (lk : FL M.2.2.1 idx "SetAsMeant" "below" "J") (d : At M.1 pc (.getfield idx) 3 pc') (kk : GS K X M σ pc' lv (.long (σ.2.1 715 0 0) :: st) o) : GS K X M σ pc lv (.ref (xad X (0)) :: st) o := g_getA sh_0 no_0 rfl inX7 15 (by decide) rfl rfl lk d kk
theorem pf_X7_15 {v : Int64} (lk : FL M.2.2.1 idx "SetAsMeant" "below" "J") (d : At M.1 pc (.putfield idx) 3 pc') (kk : GS K X M (uJ σ 715 0 0 v) pc' lv st o) : GS K X M σ pc lv (.long v :: .ref (xad X (0)) :: st) o := g_putA sh_0 no_0 rfl inX7 tyX7_ok nmX7 15 (by decide) rfl rfl rfl (Nat.le_of_ble_eq_true rfl) (fun ca ad _ => wld_putJ no_0 sh_0 rfl) lk d kk
theorem gf_X8_0 (lk : FL M.2.2.1 idx "SetAsMeantModel" "finding" "I") (d : At M.1 pc (.getfield idx) 3 pc') (kk : GS K X M σ pc' lv (.int (σ.1 800 0 0) :: st) o) : GS K X M σ pc lv (.ref (xad X (98)) :: st) o := g_getA sh_98 no_98 rfl inX8 0 (by decide) rfl rfl lk d kk
theorem pf_X8_0 {v : Int32} (lk : FL M.2.2.1 idx "SetAsMeantModel" "finding" "I") (d : At M.1 pc (.putfield idx) 3 pc') (kk : GS K X M (uI σ 800 0 0 v) pc' lv st o) : GS K X M σ pc lv (.int v :: .ref (xad X (98)) :: st) o := g_putA sh_98 no_98 rfl inX8 tyX8_ok nmX8 0 (by decide) rfl rfl rfl (Nat.le_of_ble_eq_true rfl) (fun ca ad _ => wld_putI no_98 sh_98 rfl (Or.inl rfl)) lk d kk
theorem gf_X8_1 (lk : FL M.2.2.1 idx "SetAsMeantModel" "findings" "[I") (d : At M.1 pc (.getfield idx) 3 pc') (kk : GS K X M σ pc' lv (.ref (xad X (99)) :: st) o) : GS K X M σ pc lv (.ref (xad X (98)) :: st) o := g_getA sh_98 no_98 rfl inX8 1 (by decide) rfl rfl lk d kk
theorem gf_X8_2 (lk : FL M.2.2.1 idx "SetAsMeantModel" "asked" "I") (d : At M.1 pc (.getfield idx) 3 pc') (kk : GS K X M σ pc' lv (.int (σ.1 802 0 0) :: st) o) : GS K X M σ pc lv (.ref (xad X (98)) :: st) o := g_getA sh_98 no_98 rfl inX8 2 (by decide) rfl rfl lk d kk
theorem pf_X8_2 {v : Int32} (lk : FL M.2.2.1 idx "SetAsMeantModel" "asked" "I") (d : At M.1 pc (.putfield idx) 3 pc') (kk : GS K X M (uI σ 802 0 0 v) pc' lv st o) : GS K X M σ pc lv (.int v :: .ref (xad X (98)) :: st) o := g_putA sh_98 no_98 rfl inX8 tyX8_ok nmX8 2 (by decide) rfl rfl rfl (Nat.le_of_ble_eq_true rfl) (fun ca ad _ => wld_putI no_98 sh_98 rfl (Or.inl rfl)) lk d kk
theorem gf_X8_3 (lk : FL M.2.2.1 idx "SetAsMeantModel" "upper" "J") (d : At M.1 pc (.getfield idx) 3 pc') (kk : GS K X M σ pc' lv (.long (σ.2.1 803 0 0) :: st) o) : GS K X M σ pc lv (.ref (xad X (98)) :: st) o := g_getA sh_98 no_98 rfl inX8 3 (by decide) rfl rfl lk d kk
theorem pf_X8_3 {v : Int64} (lk : FL M.2.2.1 idx "SetAsMeantModel" "upper" "J") (d : At M.1 pc (.putfield idx) 3 pc') (kk : GS K X M (uJ σ 803 0 0 v) pc' lv st o) : GS K X M σ pc lv (.long v :: .ref (xad X (98)) :: st) o := g_putA sh_98 no_98 rfl inX8 tyX8_ok nmX8 3 (by decide) rfl rfl rfl (Nat.le_of_ble_eq_true rfl) (fun ca ad _ => wld_putJ no_98 sh_98 rfl) lk d kk
theorem gf_X8_4 (lk : FL M.2.2.1 idx "SetAsMeantModel" "lower" "J") (d : At M.1 pc (.getfield idx) 3 pc') (kk : GS K X M σ pc' lv (.long (σ.2.1 804 0 0) :: st) o) : GS K X M σ pc lv (.ref (xad X (98)) :: st) o := g_getA sh_98 no_98 rfl inX8 4 (by decide) rfl rfl lk d kk
theorem pf_X8_4 {v : Int64} (lk : FL M.2.2.1 idx "SetAsMeantModel" "lower" "J") (d : At M.1 pc (.putfield idx) 3 pc') (kk : GS K X M (uJ σ 804 0 0 v) pc' lv st o) : GS K X M σ pc lv (.long v :: .ref (xad X (98)) :: st) o := g_putA sh_98 no_98 rfl inX8 tyX8_ok nmX8 4 (by decide) rfl rfl rfl (Nat.le_of_ble_eq_true rfl) (fun ca ad _ => wld_putJ no_98 sh_98 rfl) lk d kk
theorem gf_X8_5 (lk : FL M.2.2.1 idx "SetAsMeantModel" "sizes" "[I") (d : At M.1 pc (.getfield idx) 3 pc') (kk : GS K X M σ pc' lv (.ref (xad X (100)) :: st) o) : GS K X M σ pc lv (.ref (xad X (98)) :: st) o := g_getA sh_98 no_98 rfl inX8 5 (by decide) rfl rfl lk d kk
theorem gf_X8_6 (lk : FL M.2.2.1 idx "SetAsMeantModel" "rows" "[I") (d : At M.1 pc (.getfield idx) 3 pc') (kk : GS K X M σ pc' lv (.ref (xad X (101)) :: st) o) : GS K X M σ pc lv (.ref (xad X (98)) :: st) o := g_getA sh_98 no_98 rfl inX8 6 (by decide) rfl rfl lk d kk
theorem gf_X8_7 (lk : FL M.2.2.1 idx "SetAsMeantModel" "moving" "[I") (d : At M.1 pc (.getfield idx) 3 pc') (kk : GS K X M σ pc' lv (.ref (xad X (102)) :: st) o) : GS K X M σ pc lv (.ref (xad X (98)) :: st) o := g_getA sh_98 no_98 rfl inX8 7 (by decide) rfl rfl lk d kk
theorem gf_X8_8 (lk : FL M.2.2.1 idx "SetAsMeantModel" "lengths" "[I") (d : At M.1 pc (.getfield idx) 3 pc') (kk : GS K X M σ pc' lv (.ref (xad X (103)) :: st) o) : GS K X M σ pc lv (.ref (xad X (98)) :: st) o := g_getA sh_98 no_98 rfl inX8 8 (by decide) rfl rfl lk d kk
theorem gf_X8_9 (lk : FL M.2.2.1 idx "SetAsMeantModel" "texts" "[I") (d : At M.1 pc (.getfield idx) 3 pc') (kk : GS K X M σ pc' lv (.ref (xad X (104)) :: st) o) : GS K X M σ pc lv (.ref (xad X (98)) :: st) o := g_getA sh_98 no_98 rfl inX8 9 (by decide) rfl rfl lk d kk
theorem gf_X8_10 (lk : FL M.2.2.1 idx "SetAsMeantModel" "many" "I") (d : At M.1 pc (.getfield idx) 3 pc') (kk : GS K X M σ pc' lv (.int (σ.1 810 0 0) :: st) o) : GS K X M σ pc lv (.ref (xad X (98)) :: st) o := g_getA sh_98 no_98 rfl inX8 10 (by decide) rfl rfl lk d kk
theorem pf_X8_10 {v : Int32} (lk : FL M.2.2.1 idx "SetAsMeantModel" "many" "I") (d : At M.1 pc (.putfield idx) 3 pc') (kk : GS K X M (uI σ 810 0 0 v) pc' lv st o) : GS K X M σ pc lv (.int v :: .ref (xad X (98)) :: st) o := g_putA sh_98 no_98 rfl inX8 tyX8_ok nmX8 10 (by decide) rfl rfl rfl (Nat.le_of_ble_eq_true rfl) (fun ca ad _ => wld_putI no_98 sh_98 rfl (Or.inl rfl)) lk d kk
theorem gf_X8_11 (lk : FL M.2.2.1 idx "SetAsMeantModel" "laws" "[I") (d : At M.1 pc (.getfield idx) 3 pc') (kk : GS K X M σ pc' lv (.ref (xad X (105)) :: st) o) : GS K X M σ pc lv (.ref (xad X (98)) :: st) o := g_getA sh_98 no_98 rfl inX8 11 (by decide) rfl rfl lk d kk
theorem gf_X8_12 (lk : FL M.2.2.1 idx "SetAsMeantModel" "readAt" "I") (d : At M.1 pc (.getfield idx) 3 pc') (kk : GS K X M σ pc' lv (.int (σ.1 812 0 0) :: st) o) : GS K X M σ pc lv (.ref (xad X (98)) :: st) o := g_getA sh_98 no_98 rfl inX8 12 (by decide) rfl rfl lk d kk
theorem pf_X8_12 {v : Int32} (lk : FL M.2.2.1 idx "SetAsMeantModel" "readAt" "I") (d : At M.1 pc (.putfield idx) 3 pc') (kk : GS K X M (uI σ 812 0 0 v) pc' lv st o) : GS K X M σ pc lv (.int v :: .ref (xad X (98)) :: st) o := g_putA sh_98 no_98 rfl inX8 tyX8_ok nmX8 12 (by decide) rfl rfl rfl (Nat.le_of_ble_eq_true rfl) (fun ca ad _ => wld_putI no_98 sh_98 rfl (Or.inl rfl)) lk d kk
theorem gf_X8_13 (lk : FL M.2.2.1 idx "SetAsMeantModel" "readMany" "I") (d : At M.1 pc (.getfield idx) 3 pc') (kk : GS K X M σ pc' lv (.int (σ.1 813 0 0) :: st) o) : GS K X M σ pc lv (.ref (xad X (98)) :: st) o := g_getA sh_98 no_98 rfl inX8 13 (by decide) rfl rfl lk d kk
theorem pf_X8_13 {v : Int32} (lk : FL M.2.2.1 idx "SetAsMeantModel" "readMany" "I") (d : At M.1 pc (.putfield idx) 3 pc') (kk : GS K X M (uI σ 813 0 0 v) pc' lv st o) : GS K X M σ pc lv (.int v :: .ref (xad X (98)) :: st) o := g_putA sh_98 no_98 rfl inX8 tyX8_ok nmX8 13 (by decide) rfl rfl rfl (Nat.le_of_ble_eq_true rfl) (fun ca ad _ => wld_putI no_98 sh_98 rfl (Or.inl rfl)) lk d kk
theorem gf_X8_14 (lk : FL M.2.2.1 idx "SetAsMeantModel" "read" "[I") (d : At M.1 pc (.getfield idx) 3 pc') (kk : GS K X M σ pc' lv (.ref (xad X (106)) :: st) o) : GS K X M σ pc lv (.ref (xad X (98)) :: st) o := g_getA sh_98 no_98 rfl inX8 14 (by decide) rfl rfl lk d kk
theorem gf_X8_15 (lk : FL M.2.2.1 idx "SetAsMeantModel" "sheet" "[I") (d : At M.1 pc (.getfield idx) 3 pc') (kk : GS K X M σ pc' lv (.ref (xad X (107)) :: st) o) : GS K X M σ pc lv (.ref (xad X (98)) :: st) o := g_getA sh_98 no_98 rfl inX8 15 (by decide) rfl rfl lk d kk
theorem gf_X8_16 (lk : FL M.2.2.1 idx "SetAsMeantModel" "sheetMany" "I") (d : At M.1 pc (.getfield idx) 3 pc') (kk : GS K X M σ pc' lv (.int (σ.1 816 0 0) :: st) o) : GS K X M σ pc lv (.ref (xad X (98)) :: st) o := g_getA sh_98 no_98 rfl inX8 16 (by decide) rfl rfl lk d kk
theorem pf_X8_16 {v : Int32} (lk : FL M.2.2.1 idx "SetAsMeantModel" "sheetMany" "I") (d : At M.1 pc (.putfield idx) 3 pc') (kk : GS K X M (uI σ 816 0 0 v) pc' lv st o) : GS K X M σ pc lv (.int v :: .ref (xad X (98)) :: st) o := g_putA sh_98 no_98 rfl inX8 tyX8_ok nmX8 16 (by decide) rfl rfl rfl (Nat.le_of_ble_eq_true rfl) (fun ca ad _ => wld_putI no_98 sh_98 rfl (Or.inl rfl)) lk d kk
theorem gf_X8_17 (lk : FL M.2.2.1 idx "SetAsMeantModel" "out" "[I") (d : At M.1 pc (.getfield idx) 3 pc') (kk : GS K X M σ pc' lv (.ref (xad X (108)) :: st) o) : GS K X M σ pc lv (.ref (xad X (98)) :: st) o := g_getA sh_98 no_98 rfl inX8 17 (by decide) rfl rfl lk d kk
theorem gf_X8_18 (lk : FL M.2.2.1 idx "SetAsMeantModel" "outMany" "I") (d : At M.1 pc (.getfield idx) 3 pc') (kk : GS K X M σ pc' lv (.int (σ.1 818 0 0) :: st) o) : GS K X M σ pc lv (.ref (xad X (98)) :: st) o := g_getA sh_98 no_98 rfl inX8 18 (by decide) rfl rfl lk d kk
theorem pf_X8_18 {v : Int32} (lk : FL M.2.2.1 idx "SetAsMeantModel" "outMany" "I") (d : At M.1 pc (.putfield idx) 3 pc') (kk : GS K X M (uI σ 818 0 0 v) pc' lv st o) : GS K X M σ pc lv (.int v :: .ref (xad X (98)) :: st) o := g_putA sh_98 no_98 rfl inX8 tyX8_ok nmX8 18 (by decide) rfl rfl rfl (Nat.le_of_ble_eq_true rfl) (fun ca ad _ => wld_putI no_98 sh_98 rfl (Or.inl rfl)) lk d kk
theorem gf_X8_19 (lk : FL M.2.2.1 idx "SetAsMeantModel" "cameMany" "[I") (d : At M.1 pc (.getfield idx) 3 pc') (kk : GS K X M σ pc' lv (.ref (xad X (109)) :: st) o) : GS K X M σ pc lv (.ref (xad X (98)) :: st) o := g_getA sh_98 no_98 rfl inX8 19 (by decide) rfl rfl lk d kk
theorem gf_X8_20 (lk : FL M.2.2.1 idx "SetAsMeantModel" "came" "[I") (d : At M.1 pc (.getfield idx) 3 pc') (kk : GS K X M σ pc' lv (.ref (xad X (110)) :: st) o) : GS K X M σ pc lv (.ref (xad X (98)) :: st) o := g_getA sh_98 no_98 rfl inX8 20 (by decide) rfl rfl lk d kk
theorem gf_X8_21 (lk : FL M.2.2.1 idx "SetAsMeantModel" "other" "[I") (d : At M.1 pc (.getfield idx) 3 pc') (kk : GS K X M σ pc' lv (.ref (xad X (111)) :: st) o) : GS K X M σ pc lv (.ref (xad X (98)) :: st) o := g_getA sh_98 no_98 rfl inX8 21 (by decide) rfl rfl lk d kk
theorem gf_X8_22 (lk : FL M.2.2.1 idx "SetAsMeantModel" "goal" "[I") (d : At M.1 pc (.getfield idx) 3 pc') (kk : GS K X M σ pc' lv (.ref (xad X (112)) :: st) o) : GS K X M σ pc lv (.ref (xad X (98)) :: st) o := g_getA sh_98 no_98 rfl inX8 22 (by decide) rfl rfl lk d kk
theorem gf_X8_23 (lk : FL M.2.2.1 idx "SetAsMeantModel" "goalMany" "I") (d : At M.1 pc (.getfield idx) 3 pc') (kk : GS K X M σ pc' lv (.int (σ.1 823 0 0) :: st) o) : GS K X M σ pc lv (.ref (xad X (98)) :: st) o := g_getA sh_98 no_98 rfl inX8 23 (by decide) rfl rfl lk d kk
theorem pf_X8_23 {v : Int32} (lk : FL M.2.2.1 idx "SetAsMeantModel" "goalMany" "I") (d : At M.1 pc (.putfield idx) 3 pc') (kk : GS K X M (uI σ 823 0 0 v) pc' lv st o) : GS K X M σ pc lv (.int v :: .ref (xad X (98)) :: st) o := g_putA sh_98 no_98 rfl inX8 tyX8_ok nmX8 23 (by decide) rfl rfl rfl (Nat.le_of_ble_eq_true rfl) (fun ca ad _ => wld_putI no_98 sh_98 rfl (Or.inl rfl)) lk d kk
theorem gf_X8_24 (lk : FL M.2.2.1 idx "SetAsMeantModel" "codes" "[J") (d : At M.1 pc (.getfield idx) 3 pc') (kk : GS K X M σ pc' lv (.ref (xad X (113)) :: st) o) : GS K X M σ pc lv (.ref (xad X (98)) :: st) o := g_getA sh_98 no_98 rfl inX8 24 (by decide) rfl rfl lk d kk
theorem gf_X8_25 (lk : FL M.2.2.1 idx "SetAsMeantModel" "written" "[Z") (d : At M.1 pc (.getfield idx) 3 pc') (kk : GS K X M σ pc' lv (.ref (xad X (114)) :: st) o) : GS K X M σ pc lv (.ref (xad X (98)) :: st) o := g_getA sh_98 no_98 rfl inX8 25 (by decide) rfl rfl lk d kk
theorem gf_X8_26 (lk : FL M.2.2.1 idx "SetAsMeantModel" "deedMany" "I") (d : At M.1 pc (.getfield idx) 3 pc') (kk : GS K X M σ pc' lv (.int (σ.1 826 0 0) :: st) o) : GS K X M σ pc lv (.ref (xad X (98)) :: st) o := g_getA sh_98 no_98 rfl inX8 26 (by decide) rfl rfl lk d kk
theorem pf_X8_26 {v : Int32} (lk : FL M.2.2.1 idx "SetAsMeantModel" "deedMany" "I") (d : At M.1 pc (.putfield idx) 3 pc') (kk : GS K X M (uI σ 826 0 0 v) pc' lv st o) : GS K X M σ pc lv (.int v :: .ref (xad X (98)) :: st) o := g_putA sh_98 no_98 rfl inX8 tyX8_ok nmX8 26 (by decide) rfl rfl rfl (Nat.le_of_ble_eq_true rfl) (fun ca ad _ => wld_putI no_98 sh_98 rfl (Or.inl rfl)) lk d kk
theorem gf_X8_27 (lk : FL M.2.2.1 idx "SetAsMeantModel" "inks" "[I") (d : At M.1 pc (.getfield idx) 3 pc') (kk : GS K X M σ pc' lv (.ref (xad X (115)) :: st) o) : GS K X M σ pc lv (.ref (xad X (98)) :: st) o := g_getA sh_98 no_98 rfl inX8 27 (by decide) rfl rfl lk d kk
theorem gf_X8_28 (lk : FL M.2.2.1 idx "SetAsMeantModel" "drawers" "[I") (d : At M.1 pc (.getfield idx) 3 pc') (kk : GS K X M σ pc' lv (.ref (xad X (116)) :: st) o) : GS K X M σ pc lv (.ref (xad X (98)) :: st) o := g_getA sh_98 no_98 rfl inX8 28 (by decide) rfl rfl lk d kk
theorem gf_X8_29 (lk : FL M.2.2.1 idx "SetAsMeantModel" "kept" "[I") (d : At M.1 pc (.getfield idx) 3 pc') (kk : GS K X M σ pc' lv (.ref (xad X (117)) :: st) o) : GS K X M σ pc lv (.ref (xad X (98)) :: st) o := g_getA sh_98 no_98 rfl inX8 29 (by decide) rfl rfl lk d kk
theorem gf_X8_30 (lk : FL M.2.2.1 idx "SetAsMeantModel" "h0" "J") (d : At M.1 pc (.getfield idx) 3 pc') (kk : GS K X M σ pc' lv (.long (σ.2.1 830 0 0) :: st) o) : GS K X M σ pc lv (.ref (xad X (98)) :: st) o := g_getA sh_98 no_98 rfl inX8 30 (by decide) rfl rfl lk d kk
theorem pf_X8_30 {v : Int64} (lk : FL M.2.2.1 idx "SetAsMeantModel" "h0" "J") (d : At M.1 pc (.putfield idx) 3 pc') (kk : GS K X M (uJ σ 830 0 0 v) pc' lv st o) : GS K X M σ pc lv (.long v :: .ref (xad X (98)) :: st) o := g_putA sh_98 no_98 rfl inX8 tyX8_ok nmX8 30 (by decide) rfl rfl rfl (Nat.le_of_ble_eq_true rfl) (fun ca ad _ => wld_putJ no_98 sh_98 rfl) lk d kk
end FIELDS
def enG (g : Nat → Nat) (ad : Nat → Nat) (r : Option Nat) : Option Value := some (va_rf (r.map (fun x => ad (g x))))
theorem g_aretGN {X : GX} {M : MI} {σ : Mem} {pc pc' : Nat} {lv : List (Nat × Value)} {g : Nat → Nat} {n : String} (hr : M.2.2.2.2 = some (.object n)) (d : At M.1 pc .areturn 1 pc') : GS (KM (enG g) X) X M σ pc lv [.null] (some (σ, none)) := by
  obtain ⟨p, l, e, s, m, args, below, meth, cd, D, ca, ad, t1, t2, cs, sl⟩ := X
  obtain ⟨d1, rfl⟩ := d
  intro out ho F H locs ls hP hS hl
  cases ho
  exact W.aret F.1 F.2.1 (F.2.2.2.2.2.2.2.2.2.1.trans hr) (Or.inl ⟨_, rfl⟩) (Or.inl rfl) (fun t ht _ => ⟨rfl, by rw [ht]; exact hP, hS.F ht⟩) hS.2.2 d1 F.2.2.2.2.2.2.2.2.1
theorem g_aretG {X : GX} {M : MI} {σ : Mem} {pc pc' x : Nat} {lv : List (Nat × Value)} {g : Nat → Nat} {n : String} (hr : M.2.2.2.2 = some (.object n)) (d : At M.1 pc .areturn 1 pc') : GS (KM (enG g) X) X M σ pc lv [.ref (xad X (g x))] (some (σ, some x)) := by
  obtain ⟨p, l, e, s, m, args, below, meth, cd, D, ca, ad, t1, t2, cs, sl⟩ := X
  obtain ⟨d1, rfl⟩ := d
  intro out ho F H locs ls hP hS hl
  cases ho
  exact W.aret F.1 F.2.1 (F.2.2.2.2.2.2.2.2.2.1.trans hr) (Or.inl ⟨_, rfl⟩) (Or.inr ⟨_, rfl⟩) (fun t ht _ => ⟨rfl, by rw [ht]; exact hP, hS.F ht⟩) hS.2.2 d1 F.2.2.2.2.2.2.2.2.1
theorem g_callVG {ρ : Type} {K : Mem × ρ → State → Prop} {X : GX} {M M' : MI} {σ : Mem} {pc pc' : Nat} {lv : List (Nat × Value)} {st stk : List Value} {y : MethodName} {as : (Nat → Nat) → List Value} {idx n : Nat} {g : Nat → Nat} {oc : Option (Mem × Option Nat)} {f : Mem × Option Nat → Option (Mem × ρ)} (hC : CT y M' (enG g) as σ oc) (ok : OKV y M' n) (fit : FIT M' M) (lk : ML M.2.2.1 idx y) {b ci : Nat} {fl : List (Nat × Nat × Nat)} {q : vw_C} (hs : shp b = .inl (ci, fl)) (hb : b < NO) (hc : classes[ci]? = some q) (hq : q.1 = y.cls) (As : List Value) (has : as (xad X) = .ref (xad X b) :: As) (hst : stk = As.reverse ++ .ref (xad X b) :: st) (hn : As.length = n) (hroom : (st.map fun v => v.category).sum ≤ 8) (d : At M.1 pc (.invokevirtual idx) 3 pc')
    (kk : ∀ q, GS K X M q.1 pc' lv (va_rf (q.2.map (fun x => xad X (g x))) :: st) (f q)) : GS K X M σ pc lv stk (oc.bind f) := g_callV hC ok fit lk hs hb hc hq As has hst hn hroom d (fun q _ => kk q)
def ral (a : Nat) : Nat := if a = 0 then 6 else 4
theorem sh_rarr {a : Nat} (h : a < 2) : shp (1 + a) = .inr (3, ral a, 700 + a, 6 * a) := by
  match a, h with
  | 0, _ | 1, _ => rfl
  | n + 2, h => omega
theorem no_rarr {a : Nat} (h : a < 2) : 1 + a < NO := by unfold NO; omega
/-- Arrays.fill -/
def J7_fill_53178 (σ : Mem) (b : Nat) (v : Int32) : Option (Mem × Unit) := match shp b with
  | .inr (0, n, c, k) => if b < NO ∧ n < 2147483648 then some (aI σ c k (fun j => if j < n then v else σ.1 c k j), ()) else none
  | _ => none
theorem aI_id {σ : Mem} {c k : Nat} {f : Nat → Int32} (h : ∀ j, f j = σ.1 c k j) : aI σ c k f = σ := by
  obtain ⟨a, b, d⟩ := σ
  simp only [aI, Prod.mk.injEq, and_true]
  funext c' k' j'
  by_cases hh : c' = c ∧ k' = k
  · rw [if_pos hh, h, hh.1, hh.2]
  · rw [if_neg hh]
theorem aI_uI {σ : Mem} {c k i : Nat} {v : Int32} {f g : Nat → Int32} (h : ∀ j, g j = f j) : aI (uI σ c k i v) c k g = aI σ c k f := by
  simp only [aI, uI, Prod.mk.injEq, and_true]
  funext c' k' j'
  by_cases hh : c' = c ∧ k' = k
  · rw [if_pos hh, if_pos hh, h]
  · rw [if_neg hh, if_neg hh, if_neg (fun e => hh ⟨e.1, e.2.1⟩)]
theorem t_fill (X : GX) {b n c k : Nat} (v : Int32) (hs : shp b = .inr (0, n, c, k)) (hb : b < NO) (hn : n < 2147483648) : ∀ (m i : Nat) (σ : Mem), n - i ≤ m → i ≤ n → GS (KM enV X) X mJ7_fill_53178 σ 5 [(3, .int (nI n)), (2, .int (nI i)), (0, .ref (xad X b)), (1, .int v)] [] (some (aI σ c k (fun j => if i ≤ j ∧ j < n then v else σ.1 c k j), ())) := by
  intro m
  induction m with
  | zero =>
    intro i σ h1 h2
    have e : i = n := by omega
    subst e
    rw [aI_id (σ := σ) (c := c) (k := k) (fun j => by rw [if_neg (by omega)])]
    refine g_iload_n 1 dJ7_fill_53178_5 rfl ?_
    refine g_iload_n 0 dJ7_fill_53178_6 rfl ?_
    have key : GS (KM enV X) X mJ7_fill_53178 σ 7 [(3, .int (nI i)), (2, .int (nI i)), (0, .ref (xad X b)), (1, .int v)] [.int (nI i), .int (nI i)] (if nI i ≤ nI i then some (σ, ()) else none) := by
      refine g_icmp_ge 20 dJ7_fill_53178_7 rfl (fun _ => ?_) (fun h => ?_)
      · exact g_vret rfl dJ7_fill_53178_20
      · exact g_none
    rw [if_pos (Int32.le_refl _)] at key
    exact key
  | succ m ih =>
    intro i σ h1 h2
    by_cases e : i = n
    · exact ih i σ (by omega) h2
    · refine g_iload_n 1 dJ7_fill_53178_5 rfl ?_
      refine g_iload_n 0 dJ7_fill_53178_6 rfl ?_
      have key : GS (KM enV X) X mJ7_fill_53178 σ 7 [(3, .int (nI n)), (2, .int (nI i)), (0, .ref (xad X b)), (1, .int v)] [.int (nI n), .int (nI i)] (if nI n ≤ nI i then none else ck (nI i) n (some (aI σ c k (fun j => if i ≤ j ∧ j < n then v else σ.1 c k j), ()))) := by
        refine g_icmp_ge 20 dJ7_fill_53178_7 rfl (fun _ => g_none) (fun h => ?_)
        refine g_aload_n 2 dJ7_fill_53178_10 rfl ?_
        refine g_iload_n 1 dJ7_fill_53178_11 rfl ?_
        refine g_iload_n 3 dJ7_fill_53178_12 rfl ?_
        refine g_iast hs hb dJ7_fill_53178_13 (fun _ => ?_)
        refine g_iinc 1 [(2, .int (nI (i + 1))), (3, .int (nI n)), (0, .ref (xad X b)), (1, .int v)] dJ7_fill_53178_14 rfl (v := nI (i + 1)) (nI_1 i) (by decide) rfl ?_
        refine g_goto 5 dJ7_fill_53178_17 rfl ?_
        refine g_sub [1, 0, 2, 3] rfl ?_
        have := ih (i + 1) (uI σ c k (nI i).toNatClampNeg v) (by omega) (by omega)
        rw [aI_uI (f := fun j => if i ≤ j ∧ j < n then v else σ.1 c k j) (fun j => ?_)] at this
        · exact this
        · rw [nI_clamp (show i < 2 ^ 31 by omega)]
          simp only [uI, true_and]
          by_cases hj : j = i
          · subst hj; simp; intro; omega
          · simp only [hj, if_false]
            by_cases hq : i + 1 ≤ j ∧ j < n
            · rw [if_pos hq, if_pos (by omega)]
            · rw [if_neg hq, if_neg (by omega)]
      rw [if_neg (nI_ge (by omega) (by omega)), ck, if_neg (nI_in (by omega) (by omega))] at key
      exact key
theorem c_J7_fill_53178 (σ : Mem) (b : Nat) (v : Int32) : CT yJ7_fill_53178 mJ7_fill_53178 enV (fun ad => [.ref (ad b), .int v]) σ (J7_fill_53178 σ b v) := by
  refine CT.of (by decide) rfl (fun _ => Nat.le_of_ble_eq_true rfl) (fun X => ?_)
  show GS (KM enV X) X mJ7_fill_53178 σ 0 [(0, .ref (xad X b)), (1, .int v)] [] _
  unfold J7_fill_53178
  split
  · rename_i n c k hs
    refine g_guard (fun hg => ?_)
    refine g_iconst (0 : Int32) dJ7_fill_53178_0 (by decide) ?_
    refine g_istore_n [(2, .int (nI 0)), (0, .ref (xad X b)), (1, .int v)] dJ7_fill_53178_1 (by decide) rfl ?_
    refine g_aload_n 1 dJ7_fill_53178_2 rfl ?_
    refine g_alen (v := nI n) hs hg.1 (by decide) rfl dJ7_fill_53178_3 ?_
    refine g_istore_n [(3, .int (nI n)), (2, .int (nI 0)), (0, .ref (xad X b)), (1, .int v)] dJ7_fill_53178_4 (by decide) rfl ?_
    have := t_fill X v hs hg.1 hg.2 n 0 σ (by omega) (by omega)
    have e : (fun j => if 0 ≤ j ∧ j < n then v else σ.1 c k j) = (fun j => if j < n then v else σ.1 c k j) := by funext j; simp
    rw [e] at this
    exact this
  · exact g_none
