/-! the law's cases, each over the cells that it needs -/
abbrev lw_A (s : State) : Nat → Prop := fun q => s.heap.size ≤ q
def lw_ch (v : Int32) : Int32 := (v.toUInt32 % 65536).toInt32
/-- the road from the end of a case on -/
def lw_End (p : Program) (l : Launch) (e : Env) (s : State) (m : MethodId) (below : List Frame) (meth : Method) (c : Code) (b : Nat) (Q : State → Prop) : Prop :=
  ∀ (H : Heap) (locs : List Loc) (ls : Array Slot), lv_has ls 9 [(5, .int 0), (0, .ref b)] → va_S (lw_A s) s.heap H locs → W p l e room_1 s m #[Value.ref b] below meth c H locs 600006 7302040 Q (F0 m 3320 ls [])
set_option maxRecDepth 100000 in
theorem mw_764 : (.methodLink RL 165 yL_land : Cond) ∈ lw_tbl := List.mem_of_getElem? (i := 569) (by decide +kernel)
set_option maxRecDepth 100000 in
theorem mw_765 : (.static yL_land : Cond) ∈ lw_tbl := List.mem_of_getElem? (i := 570) (by decide +kernel)
set_option maxRecDepth 100000 in
theorem mw_766 : (.initialized RL : Cond) ∈ lw_tbl := List.mem_of_getElem? (i := 86) (by decide +kernel)
set_option maxRecDepth 100000 in
theorem mw_767 : (.methodLink RL 170 yX9_land : Cond) ∈ lw_tbl := List.mem_of_getElem? (i := 1390) (by decide +kernel)
set_option maxRecDepth 100000 in
theorem mw_768 : (.instanceMethod yX9_land : Cond) ∈ lw_tbl := List.mem_of_getElem? (i := 1391) (by decide +kernel)
set_option maxRecDepth 100000 in
theorem mw_769 : (.selects RX9 yX9_land yX9_land : Cond) ∈ lw_tbl := List.mem_of_getElem? (i := 1392) (by decide +kernel)
set_option maxRecDepth 100000 in
theorem mw_770 : (.methodLink RL 171 yX9_thrown : Cond) ∈ lw_tbl := List.mem_of_getElem? (i := 1386) (by decide +kernel)
set_option maxRecDepth 100000 in
theorem mw_771 : (.instanceMethod yX9_thrown : Cond) ∈ lw_tbl := List.mem_of_getElem? (i := 1387) (by decide +kernel)
set_option maxRecDepth 100000 in
theorem mw_772 : (.selects RX9 yX9_thrown yX9_thrown : Cond) ∈ lw_tbl := List.mem_of_getElem? (i := 1388) (by decide +kernel)
set_option maxRecDepth 100000 in
theorem mw_773 : (.methodLink RL 174 yL_cell : Cond) ∈ lw_tbl := List.mem_of_getElem? (i := 652) (by decide +kernel)
set_option maxRecDepth 100000 in
theorem mw_774 : (.static yL_cell : Cond) ∈ lw_tbl := List.mem_of_getElem? (i := 653) (by decide +kernel)
set_option maxRecDepth 100000 in
theorem mw_775 : (.methodLink RL 177 yX9_cell : Cond) ∈ lw_tbl := List.mem_of_getElem? (i := 1407) (by decide +kernel)
set_option maxRecDepth 100000 in
theorem mw_776 : (.instanceMethod yX9_cell : Cond) ∈ lw_tbl := List.mem_of_getElem? (i := 1408) (by decide +kernel)
set_option maxRecDepth 100000 in
theorem mw_777 : (.selects RX9 yX9_cell yX9_cell : Cond) ∈ lw_tbl := List.mem_of_getElem? (i := 1409) (by decide +kernel)
set_option maxRecDepth 100000 in
theorem mw_778 : (.methodLink RL 178 yX6_print : Cond) ∈ lw_tbl := List.mem_of_getElem? (i := 434) (by decide +kernel)
set_option maxRecDepth 100000 in
theorem mw_779 : (.instanceMethod yX6_print : Cond) ∈ lw_tbl := List.mem_of_getElem? (i := 435) (by decide +kernel)
set_option maxRecDepth 100000 in
theorem mw_780 : (.selects RX6 yX6_print yX6_print : Cond) ∈ lw_tbl := List.mem_of_getElem? (i := 436) (by decide +kernel)
set_option maxRecDepth 100000 in
theorem mw_781 : (.methodLink RL 181 yX9_print : Cond) ∈ lw_tbl := List.mem_of_getElem? (i := 1419) (by decide +kernel)
set_option maxRecDepth 100000 in
theorem mw_782 : (.instanceMethod yX9_print : Cond) ∈ lw_tbl := List.mem_of_getElem? (i := 1420) (by decide +kernel)
set_option maxRecDepth 100000 in
theorem mw_783 : (.selects RX9 yX9_print yX9_print : Cond) ∈ lw_tbl := List.mem_of_getElem? (i := 1421) (by decide +kernel)
set_option maxRecDepth 100000 in
theorem mw_784 : (.methodLink RL 182 yL_show : Cond) ∈ lw_tbl := List.mem_of_getElem? (i := 707) (by decide +kernel)
set_option maxRecDepth 100000 in
theorem mw_785 : (.static yL_show : Cond) ∈ lw_tbl := List.mem_of_getElem? (i := 708) (by decide +kernel)
set_option maxRecDepth 100000 in
theorem mw_786 : (.methodLink RL 185 yX9_show : Cond) ∈ lw_tbl := List.mem_of_getElem? (i := 1435) (by decide +kernel)
set_option maxRecDepth 100000 in
theorem mw_787 : (.instanceMethod yX9_show : Cond) ∈ lw_tbl := List.mem_of_getElem? (i := 1436) (by decide +kernel)
set_option maxRecDepth 100000 in
theorem mw_788 : (.selects RX9 yX9_show yX9_show : Cond) ∈ lw_tbl := List.mem_of_getElem? (i := 1437) (by decide +kernel)
set_option maxRecDepth 100000 in
theorem mw_789 : (.methodLink RL 186 yL_cost : Cond) ∈ lw_tbl := List.mem_of_getElem? (i := 714) (by decide +kernel)
set_option maxRecDepth 100000 in
theorem mw_790 : (.static yL_cost : Cond) ∈ lw_tbl := List.mem_of_getElem? (i := 715) (by decide +kernel)
set_option maxRecDepth 100000 in
theorem mw_791 : (.methodLink RL 189 yX9_cost : Cond) ∈ lw_tbl := List.mem_of_getElem? (i := 1439) (by decide +kernel)
set_option maxRecDepth 100000 in
theorem mw_792 : (.instanceMethod yX9_cost : Cond) ∈ lw_tbl := List.mem_of_getElem? (i := 1440) (by decide +kernel)
set_option maxRecDepth 100000 in
theorem mw_793 : (.selects RX9 yX9_cost yX9_cost : Cond) ∈ lw_tbl := List.mem_of_getElem? (i := 1441) (by decide +kernel)
set_option maxRecDepth 100000 in
theorem mw_794 : (.methodLink RL 190 yL_misled : Cond) ∈ lw_tbl := List.mem_of_getElem? (i := 746) (by decide +kernel)
set_option maxRecDepth 100000 in
theorem mw_795 : (.static yL_misled : Cond) ∈ lw_tbl := List.mem_of_getElem? (i := 747) (by decide +kernel)
set_option maxRecDepth 100000 in
theorem mw_796 : (.methodLink RL 192 yX9_misled : Cond) ∈ lw_tbl := List.mem_of_getElem? (i := 1471) (by decide +kernel)
set_option maxRecDepth 100000 in
theorem mw_797 : (.instanceMethod yX9_misled : Cond) ∈ lw_tbl := List.mem_of_getElem? (i := 1472) (by decide +kernel)
set_option maxRecDepth 100000 in
theorem mw_798 : (.selects RX9 yX9_misled yX9_misled : Cond) ∈ lw_tbl := List.mem_of_getElem? (i := 1473) (by decide +kernel)
set_option maxRecDepth 100000 in
theorem mw_799 : (.methodLink RL 193 yL_control : Cond) ∈ lw_tbl := List.mem_of_getElem? (i := 761) (by decide +kernel)
set_option maxRecDepth 100000 in
theorem mw_800 : (.static yL_control : Cond) ∈ lw_tbl := List.mem_of_getElem? (i := 762) (by decide +kernel)
set_option maxRecDepth 100000 in
theorem mw_801 : (.methodLink RL 196 yX9_control : Cond) ∈ lw_tbl := List.mem_of_getElem? (i := 1475) (by decide +kernel)
set_option maxRecDepth 100000 in
theorem mw_802 : (.instanceMethod yX9_control : Cond) ∈ lw_tbl := List.mem_of_getElem? (i := 1476) (by decide +kernel)
set_option maxRecDepth 100000 in
theorem mw_803 : (.selects RX9 yX9_control yX9_control : Cond) ∈ lw_tbl := List.mem_of_getElem? (i := 1477) (by decide +kernel)
set_option maxRecDepth 100000 in
theorem mw_804 : (.methodLink RL 197 yL_areNear : Cond) ∈ lw_tbl := List.mem_of_getElem? (i := 806) (by decide +kernel)
set_option maxRecDepth 100000 in
theorem mw_805 : (.static yL_areNear : Cond) ∈ lw_tbl := List.mem_of_getElem? (i := 807) (by decide +kernel)
set_option maxRecDepth 100000 in
theorem mw_806 : (.methodLink RL 199 yX9_areNear : Cond) ∈ lw_tbl := List.mem_of_getElem? (i := 1551) (by decide +kernel)
set_option maxRecDepth 100000 in
theorem mw_807 : (.instanceMethod yX9_areNear : Cond) ∈ lw_tbl := List.mem_of_getElem? (i := 1552) (by decide +kernel)
set_option maxRecDepth 100000 in
theorem mw_808 : (.selects RX9 yX9_areNear yX9_areNear : Cond) ∈ lw_tbl := List.mem_of_getElem? (i := 1553) (by decide +kernel)
set_option maxRecDepth 100000 in
theorem mw_809 : (.methodLink RL 200 yL_course : Cond) ∈ lw_tbl := List.mem_of_getElem? (i := 828) (by decide +kernel)
set_option maxRecDepth 100000 in
theorem mw_810 : (.static yL_course : Cond) ∈ lw_tbl := List.mem_of_getElem? (i := 829) (by decide +kernel)
set_option maxRecDepth 100000 in
theorem mw_811 : (.methodLink RL 203 yX9_course : Cond) ∈ lw_tbl := List.mem_of_getElem? (i := 1577) (by decide +kernel)
set_option maxRecDepth 100000 in
theorem mw_812 : (.instanceMethod yX9_course : Cond) ∈ lw_tbl := List.mem_of_getElem? (i := 1578) (by decide +kernel)
set_option maxRecDepth 100000 in
theorem mw_813 : (.selects RX9 yX9_course yX9_course : Cond) ∈ lw_tbl := List.mem_of_getElem? (i := 1579) (by decide +kernel)
set_option maxRecDepth 100000 in
theorem mw_814 : (.methodLink RL 204 yL_add : Cond) ∈ lw_tbl := List.mem_of_getElem? (i := 840) (by decide +kernel)
set_option maxRecDepth 100000 in
theorem mw_815 : (.static yL_add : Cond) ∈ lw_tbl := List.mem_of_getElem? (i := 841) (by decide +kernel)
set_option maxRecDepth 100000 in
theorem mw_816 : (.methodLink RL 206 yX9_add : Cond) ∈ lw_tbl := List.mem_of_getElem? (i := 1607) (by decide +kernel)
set_option maxRecDepth 100000 in
theorem mw_817 : (.instanceMethod yX9_add : Cond) ∈ lw_tbl := List.mem_of_getElem? (i := 1608) (by decide +kernel)
set_option maxRecDepth 100000 in
theorem mw_818 : (.selects RX9 yX9_add yX9_add : Cond) ∈ lw_tbl := List.mem_of_getElem? (i := 1609) (by decide +kernel)
set_option maxRecDepth 100000 in
theorem mw_819 : (.methodLink RL 207 yL_fork : Cond) ∈ lw_tbl := List.mem_of_getElem? (i := 861) (by decide +kernel)
set_option maxRecDepth 100000 in
theorem mw_820 : (.static yL_fork : Cond) ∈ lw_tbl := List.mem_of_getElem? (i := 862) (by decide +kernel)
set_option maxRecDepth 100000 in
theorem mw_821 : (.methodLink RL 209 yX9_fork : Cond) ∈ lw_tbl := List.mem_of_getElem? (i := 1697) (by decide +kernel)
set_option maxRecDepth 100000 in
theorem mw_822 : (.instanceMethod yX9_fork : Cond) ∈ lw_tbl := List.mem_of_getElem? (i := 1698) (by decide +kernel)
set_option maxRecDepth 100000 in
theorem mw_823 : (.selects RX9 yX9_fork yX9_fork : Cond) ∈ lw_tbl := List.mem_of_getElem? (i := 1699) (by decide +kernel)
set_option maxRecDepth 100000 in
theorem mw_824 : (.methodLink RL 210 yL_isLawful : Cond) ∈ lw_tbl := List.mem_of_getElem? (i := 869) (by decide +kernel)
set_option maxRecDepth 100000 in
theorem mw_825 : (.static yL_isLawful : Cond) ∈ lw_tbl := List.mem_of_getElem? (i := 870) (by decide +kernel)
set_option maxRecDepth 100000 in
theorem mw_826 : (.methodLink RL 212 yX9_isLawful : Cond) ∈ lw_tbl := List.mem_of_getElem? (i := 1710) (by decide +kernel)
set_option maxRecDepth 100000 in
theorem mw_827 : (.instanceMethod yX9_isLawful : Cond) ∈ lw_tbl := List.mem_of_getElem? (i := 1711) (by decide +kernel)
set_option maxRecDepth 100000 in
theorem mw_828 : (.selects RX9 yX9_isLawful yX9_isLawful : Cond) ∈ lw_tbl := List.mem_of_getElem? (i := 1712) (by decide +kernel)
set_option maxRecDepth 100000 in
theorem mw_829 : (.methodLink RL 213 yL_lengthOf : Cond) ∈ lw_tbl := List.mem_of_getElem? (i := 884) (by decide +kernel)
set_option maxRecDepth 100000 in
theorem mw_830 : (.static yL_lengthOf : Cond) ∈ lw_tbl := List.mem_of_getElem? (i := 885) (by decide +kernel)
set_option maxRecDepth 100000 in
theorem mw_831 : (.methodLink RL 215 yX9_lengthOf_ : Cond) ∈ lw_tbl := List.mem_of_getElem? (i := 1733) (by decide +kernel)
set_option maxRecDepth 100000 in
theorem mw_832 : (.instanceMethod yX9_lengthOf_ : Cond) ∈ lw_tbl := List.mem_of_getElem? (i := 1734) (by decide +kernel)
set_option maxRecDepth 100000 in
theorem mw_833 : (.selects RX9 yX9_lengthOf_ yX9_lengthOf_ : Cond) ∈ lw_tbl := List.mem_of_getElem? (i := 1735) (by decide +kernel)
set_option maxRecDepth 100000 in
theorem mw_834 : (.methodLink RL 216 yL_runner : Cond) ∈ lw_tbl := List.mem_of_getElem? (i := 891) (by decide +kernel)
set_option maxRecDepth 100000 in
theorem mw_835 : (.static yL_runner : Cond) ∈ lw_tbl := List.mem_of_getElem? (i := 892) (by decide +kernel)
set_option maxRecDepth 100000 in
theorem mw_836 : (.methodLink RL 218 yX9_runner : Cond) ∈ lw_tbl := List.mem_of_getElem? (i := 1737) (by decide +kernel)
set_option maxRecDepth 100000 in
theorem mw_837 : (.instanceMethod yX9_runner : Cond) ∈ lw_tbl := List.mem_of_getElem? (i := 1738) (by decide +kernel)
set_option maxRecDepth 100000 in
theorem mw_838 : (.selects RX9 yX9_runner yX9_runner : Cond) ∈ lw_tbl := List.mem_of_getElem? (i := 1739) (by decide +kernel)
set_option maxRecDepth 100000 in
theorem mw_839 : (.methodLink RL 219 yL_branches : Cond) ∈ lw_tbl := List.mem_of_getElem? (i := 907) (by decide +kernel)
set_option maxRecDepth 100000 in
theorem mw_840 : (.static yL_branches : Cond) ∈ lw_tbl := List.mem_of_getElem? (i := 908) (by decide +kernel)
set_option maxRecDepth 100000 in
theorem mw_841 : (.methodLink RL 221 yX9_branches : Cond) ∈ lw_tbl := List.mem_of_getElem? (i := 1781) (by decide +kernel)
set_option maxRecDepth 100000 in
theorem mw_842 : (.instanceMethod yX9_branches : Cond) ∈ lw_tbl := List.mem_of_getElem? (i := 1782) (by decide +kernel)
set_option maxRecDepth 100000 in
theorem mw_843 : (.selects RX9 yX9_branches yX9_branches : Cond) ∈ lw_tbl := List.mem_of_getElem? (i := 1783) (by decide +kernel)
set_option maxRecDepth 100000 in
theorem mw_844 : (.methodLink RL 222 yL_start : Cond) ∈ lw_tbl := List.mem_of_getElem? (i := 926) (by decide +kernel)
set_option maxRecDepth 100000 in
theorem mw_845 : (.static yL_start : Cond) ∈ lw_tbl := List.mem_of_getElem? (i := 927) (by decide +kernel)
set_option maxRecDepth 100000 in
theorem mw_846 : (.methodLink RL 224 yX9_start : Cond) ∈ lw_tbl := List.mem_of_getElem? (i := 1792) (by decide +kernel)
set_option maxRecDepth 100000 in
theorem mw_847 : (.instanceMethod yX9_start : Cond) ∈ lw_tbl := List.mem_of_getElem? (i := 1793) (by decide +kernel)
set_option maxRecDepth 100000 in
theorem mw_848 : (.selects RX9 yX9_start yX9_start : Cond) ∈ lw_tbl := List.mem_of_getElem? (i := 1794) (by decide +kernel)
set_option maxRecDepth 100000 in
theorem mw_849 : (.methodLink RL 225 yL_draw : Cond) ∈ lw_tbl := List.mem_of_getElem? (i := 934) (by decide +kernel)
set_option maxRecDepth 100000 in
theorem mw_850 : (.static yL_draw : Cond) ∈ lw_tbl := List.mem_of_getElem? (i := 935) (by decide +kernel)
set_option maxRecDepth 100000 in
theorem mw_851 : (.methodLink RL 228 yX9_draw : Cond) ∈ lw_tbl := List.mem_of_getElem? (i := 1797) (by decide +kernel)
set_option maxRecDepth 100000 in
theorem mw_852 : (.instanceMethod yX9_draw : Cond) ∈ lw_tbl := List.mem_of_getElem? (i := 1798) (by decide +kernel)
set_option maxRecDepth 100000 in
theorem mw_853 : (.selects RX9 yX9_draw yX9_draw : Cond) ∈ lw_tbl := List.mem_of_getElem? (i := 1799) (by decide +kernel)
set_option maxRecDepth 100000 in
theorem mw_854 : (.methodLink RL 229 yL_startOf : Cond) ∈ lw_tbl := List.mem_of_getElem? (i := 973) (by decide +kernel)
set_option maxRecDepth 100000 in
theorem mw_855 : (.static yL_startOf : Cond) ∈ lw_tbl := List.mem_of_getElem? (i := 974) (by decide +kernel)
set_option maxRecDepth 100000 in
theorem mw_856 : (.methodLink RL 231 yX9_startOf : Cond) ∈ lw_tbl := List.mem_of_getElem? (i := 1816) (by decide +kernel)
set_option maxRecDepth 100000 in
theorem mw_857 : (.instanceMethod yX9_startOf : Cond) ∈ lw_tbl := List.mem_of_getElem? (i := 1817) (by decide +kernel)
set_option maxRecDepth 100000 in
theorem mw_858 : (.selects RX9 yX9_startOf yX9_startOf : Cond) ∈ lw_tbl := List.mem_of_getElem? (i := 1818) (by decide +kernel)
set_option maxRecDepth 100000 in
theorem mw_859 : (.methodLink RL 232 yL_punch : Cond) ∈ lw_tbl := List.mem_of_getElem? (i := 981) (by decide +kernel)
set_option maxRecDepth 100000 in
theorem mw_860 : (.static yL_punch : Cond) ∈ lw_tbl := List.mem_of_getElem? (i := 982) (by decide +kernel)
set_option maxRecDepth 100000 in
theorem mw_861 : (.methodLink RL 234 yX9_punch : Cond) ∈ lw_tbl := List.mem_of_getElem? (i := 1820) (by decide +kernel)
set_option maxRecDepth 100000 in
theorem mw_862 : (.instanceMethod yX9_punch : Cond) ∈ lw_tbl := List.mem_of_getElem? (i := 1821) (by decide +kernel)
set_option maxRecDepth 100000 in
theorem mw_863 : (.selects RX9 yX9_punch yX9_punch : Cond) ∈ lw_tbl := List.mem_of_getElem? (i := 1822) (by decide +kernel)
set_option maxRecDepth 100000 in
theorem mw_864 : (.methodLink RL 235 yL_finish : Cond) ∈ lw_tbl := List.mem_of_getElem? (i := 1005) (by decide +kernel)
set_option maxRecDepth 100000 in
theorem mw_865 : (.static yL_finish : Cond) ∈ lw_tbl := List.mem_of_getElem? (i := 1006) (by decide +kernel)
set_option maxRecDepth 100000 in
theorem mw_866 : (.methodLink RL 237 yX9_finish : Cond) ∈ lw_tbl := List.mem_of_getElem? (i := 1832) (by decide +kernel)
set_option maxRecDepth 100000 in
theorem mw_867 : (.instanceMethod yX9_finish : Cond) ∈ lw_tbl := List.mem_of_getElem? (i := 1833) (by decide +kernel)
set_option maxRecDepth 100000 in
theorem mw_868 : (.selects RX9 yX9_finish yX9_finish : Cond) ∈ lw_tbl := List.mem_of_getElem? (i := 1834) (by decide +kernel)
set_option maxRecDepth 100000 in
theorem mw_869 : (.methodLink RL 238 yL_dead : Cond) ∈ lw_tbl := List.mem_of_getElem? (i := 1012) (by decide +kernel)
set_option maxRecDepth 100000 in
theorem mw_870 : (.static yL_dead : Cond) ∈ lw_tbl := List.mem_of_getElem? (i := 1013) (by decide +kernel)
set_option maxRecDepth 100000 in
theorem mw_871 : (.methodLink RL 240 yX9_dead : Cond) ∈ lw_tbl := List.mem_of_getElem? (i := 1836) (by decide +kernel)
set_option maxRecDepth 100000 in
theorem mw_872 : (.instanceMethod yX9_dead : Cond) ∈ lw_tbl := List.mem_of_getElem? (i := 1837) (by decide +kernel)
set_option maxRecDepth 100000 in
theorem mw_873 : (.selects RX9 yX9_dead yX9_dead : Cond) ∈ lw_tbl := List.mem_of_getElem? (i := 1838) (by decide +kernel)
set_option maxRecDepth 100000 in
theorem mw_874 : (.methodLink RL 241 yL_stolen : Cond) ∈ lw_tbl := List.mem_of_getElem? (i := 1024) (by decide +kernel)
set_option maxRecDepth 100000 in
theorem mw_875 : (.static yL_stolen : Cond) ∈ lw_tbl := List.mem_of_getElem? (i := 1025) (by decide +kernel)
set_option maxRecDepth 100000 in
theorem mw_876 : (.methodLink RL 243 yX9_stolen : Cond) ∈ lw_tbl := List.mem_of_getElem? (i := 1840) (by decide +kernel)
set_option maxRecDepth 100000 in
theorem mw_877 : (.instanceMethod yX9_stolen : Cond) ∈ lw_tbl := List.mem_of_getElem? (i := 1841) (by decide +kernel)
set_option maxRecDepth 100000 in
theorem mw_878 : (.selects RX9 yX9_stolen yX9_stolen : Cond) ∈ lw_tbl := List.mem_of_getElem? (i := 1842) (by decide +kernel)
set_option maxRecDepth 100000 in
theorem mw_879 : (.methodLink RL 244 yL_voided : Cond) ∈ lw_tbl := List.mem_of_getElem? (i := 1032) (by decide +kernel)
set_option maxRecDepth 100000 in
theorem mw_880 : (.static yL_voided : Cond) ∈ lw_tbl := List.mem_of_getElem? (i := 1033) (by decide +kernel)
set_option maxRecDepth 100000 in
theorem mw_881 : (.methodLink RL 246 yX9_voided : Cond) ∈ lw_tbl := List.mem_of_getElem? (i := 1844) (by decide +kernel)
set_option maxRecDepth 100000 in
theorem mw_882 : (.instanceMethod yX9_voided : Cond) ∈ lw_tbl := List.mem_of_getElem? (i := 1845) (by decide +kernel)
set_option maxRecDepth 100000 in
theorem mw_883 : (.selects RX9 yX9_voided yX9_voided : Cond) ∈ lw_tbl := List.mem_of_getElem? (i := 1846) (by decide +kernel)
set_option maxRecDepth 100000 in
theorem mw_884 : (.methodLink RL 247 yL_rule : Cond) ∈ lw_tbl := List.mem_of_getElem? (i := 1042) (by decide +kernel)
set_option maxRecDepth 100000 in
theorem mw_885 : (.static yL_rule : Cond) ∈ lw_tbl := List.mem_of_getElem? (i := 1043) (by decide +kernel)
set_option maxRecDepth 100000 in
theorem mw_886 : (.methodLink RL 249 yX9_rule : Cond) ∈ lw_tbl := List.mem_of_getElem? (i := 1848) (by decide +kernel)
set_option maxRecDepth 100000 in
theorem mw_887 : (.instanceMethod yX9_rule : Cond) ∈ lw_tbl := List.mem_of_getElem? (i := 1849) (by decide +kernel)
set_option maxRecDepth 100000 in
theorem mw_888 : (.selects RX9 yX9_rule yX9_rule : Cond) ∈ lw_tbl := List.mem_of_getElem? (i := 1850) (by decide +kernel)
set_option maxRecDepth 100000 in
theorem mw_889 : (.methodLink RL 250 yL_state : Cond) ∈ lw_tbl := List.mem_of_getElem? (i := 1050) (by decide +kernel)
set_option maxRecDepth 100000 in
theorem mw_890 : (.static yL_state : Cond) ∈ lw_tbl := List.mem_of_getElem? (i := 1051) (by decide +kernel)
set_option maxRecDepth 100000 in
theorem mw_891 : (.methodLink RL 252 yX9_state : Cond) ∈ lw_tbl := List.mem_of_getElem? (i := 1856) (by decide +kernel)
set_option maxRecDepth 100000 in
theorem mw_892 : (.instanceMethod yX9_state : Cond) ∈ lw_tbl := List.mem_of_getElem? (i := 1857) (by decide +kernel)
set_option maxRecDepth 100000 in
theorem mw_893 : (.selects RX9 yX9_state yX9_state : Cond) ∈ lw_tbl := List.mem_of_getElem? (i := 1858) (by decide +kernel)
set_option maxRecDepth 100000 in
theorem mw_894 : (.methodLink RL 253 yL_time : Cond) ∈ lw_tbl := List.mem_of_getElem? (i := 1057) (by decide +kernel)
set_option maxRecDepth 100000 in
theorem mw_895 : (.static yL_time : Cond) ∈ lw_tbl := List.mem_of_getElem? (i := 1058) (by decide +kernel)
set_option maxRecDepth 100000 in
theorem mw_896 : (.methodLink RL 255 yX9_time : Cond) ∈ lw_tbl := List.mem_of_getElem? (i := 1868) (by decide +kernel)
set_option maxRecDepth 100000 in
theorem mw_897 : (.instanceMethod yX9_time : Cond) ∈ lw_tbl := List.mem_of_getElem? (i := 1869) (by decide +kernel)
set_option maxRecDepth 100000 in
theorem mw_898 : (.selects RX9 yX9_time yX9_time : Cond) ∈ lw_tbl := List.mem_of_getElem? (i := 1870) (by decide +kernel)
set_option maxRecDepth 100000 in
theorem mw_899 : (.methodLink RL 256 yL_split : Cond) ∈ lw_tbl := List.mem_of_getElem? (i := 1070) (by decide +kernel)
set_option maxRecDepth 100000 in
theorem mw_900 : (.static yL_split : Cond) ∈ lw_tbl := List.mem_of_getElem? (i := 1071) (by decide +kernel)
set_option maxRecDepth 100000 in
theorem mw_901 : (.methodLink RL 258 yX9_split : Cond) ∈ lw_tbl := List.mem_of_getElem? (i := 1884) (by decide +kernel)
set_option maxRecDepth 100000 in
theorem mw_902 : (.instanceMethod yX9_split : Cond) ∈ lw_tbl := List.mem_of_getElem? (i := 1885) (by decide +kernel)
set_option maxRecDepth 100000 in
theorem mw_903 : (.selects RX9 yX9_split yX9_split : Cond) ∈ lw_tbl := List.mem_of_getElem? (i := 1886) (by decide +kernel)
set_option maxRecDepth 100000 in
theorem mw_904 : (.methodLink RL 259 yL_place : Cond) ∈ lw_tbl := List.mem_of_getElem? (i := 1081) (by decide +kernel)
set_option maxRecDepth 100000 in
theorem mw_905 : (.static yL_place : Cond) ∈ lw_tbl := List.mem_of_getElem? (i := 1082) (by decide +kernel)
set_option maxRecDepth 100000 in
theorem mw_906 : (.methodLink RL 261 yX9_place : Cond) ∈ lw_tbl := List.mem_of_getElem? (i := 1892) (by decide +kernel)
set_option maxRecDepth 100000 in
theorem mw_907 : (.instanceMethod yX9_place : Cond) ∈ lw_tbl := List.mem_of_getElem? (i := 1893) (by decide +kernel)
set_option maxRecDepth 100000 in
theorem mw_908 : (.selects RX9 yX9_place yX9_place : Cond) ∈ lw_tbl := List.mem_of_getElem? (i := 1894) (by decide +kernel)
set_option maxRecDepth 100000 in
theorem mw_909 : (.methodLink RL 262 yL_reference : Cond) ∈ lw_tbl := List.mem_of_getElem? (i := 1095) (by decide +kernel)
set_option maxRecDepth 100000 in
theorem mw_910 : (.static yL_reference : Cond) ∈ lw_tbl := List.mem_of_getElem? (i := 1096) (by decide +kernel)
set_option maxRecDepth 100000 in
theorem mw_911 : (.methodLink RL 264 yX9_reference : Cond) ∈ lw_tbl := List.mem_of_getElem? (i := 1900) (by decide +kernel)
set_option maxRecDepth 100000 in
theorem mw_912 : (.instanceMethod yX9_reference : Cond) ∈ lw_tbl := List.mem_of_getElem? (i := 1901) (by decide +kernel)
set_option maxRecDepth 100000 in
theorem mw_913 : (.selects RX9 yX9_reference yX9_reference : Cond) ∈ lw_tbl := List.mem_of_getElem? (i := 1902) (by decide +kernel)
set_option maxRecDepth 100000 in
theorem mw_914 : (.methodLink RL 265 yL_pace : Cond) ∈ lw_tbl := List.mem_of_getElem? (i := 1114) (by decide +kernel)
set_option maxRecDepth 100000 in
theorem mw_915 : (.static yL_pace : Cond) ∈ lw_tbl := List.mem_of_getElem? (i := 1115) (by decide +kernel)
set_option maxRecDepth 100000 in
theorem mw_916 : (.methodLink RL 267 yX9_pace : Cond) ∈ lw_tbl := List.mem_of_getElem? (i := 2459) (by decide +kernel)
set_option maxRecDepth 100000 in
theorem mw_917 : (.instanceMethod yX9_pace : Cond) ∈ lw_tbl := List.mem_of_getElem? (i := 2460) (by decide +kernel)
set_option maxRecDepth 100000 in
theorem mw_918 : (.selects RX9 yX9_pace yX9_pace : Cond) ∈ lw_tbl := List.mem_of_getElem? (i := 2461) (by decide +kernel)
set_option maxRecDepth 100000 in
theorem mw_919 : (.methodLink RL 268 yL_loss : Cond) ∈ lw_tbl := List.mem_of_getElem? (i := 1125) (by decide +kernel)
set_option maxRecDepth 100000 in
theorem mw_920 : (.static yL_loss : Cond) ∈ lw_tbl := List.mem_of_getElem? (i := 1126) (by decide +kernel)
set_option maxRecDepth 100000 in
theorem mw_921 : (.methodLink RL 270 yX9_loss : Cond) ∈ lw_tbl := List.mem_of_getElem? (i := 2468) (by decide +kernel)
set_option maxRecDepth 100000 in
theorem mw_922 : (.instanceMethod yX9_loss : Cond) ∈ lw_tbl := List.mem_of_getElem? (i := 2469) (by decide +kernel)
set_option maxRecDepth 100000 in
theorem mw_923 : (.selects RX9 yX9_loss yX9_loss : Cond) ∈ lw_tbl := List.mem_of_getElem? (i := 2470) (by decide +kernel)
set_option maxRecDepth 100000 in
theorem mw_924 : (.methodLink RL 271 yL_points : Cond) ∈ lw_tbl := List.mem_of_getElem? (i := 1136) (by decide +kernel)
set_option maxRecDepth 100000 in
theorem mw_925 : (.static yL_points : Cond) ∈ lw_tbl := List.mem_of_getElem? (i := 1137) (by decide +kernel)
set_option maxRecDepth 100000 in
theorem mw_926 : (.methodLink RL 273 yX9_points : Cond) ∈ lw_tbl := List.mem_of_getElem? (i := 2473) (by decide +kernel)
set_option maxRecDepth 100000 in
theorem mw_927 : (.instanceMethod yX9_points : Cond) ∈ lw_tbl := List.mem_of_getElem? (i := 2474) (by decide +kernel)
set_option maxRecDepth 100000 in
theorem mw_928 : (.selects RX9 yX9_points yX9_points : Cond) ∈ lw_tbl := List.mem_of_getElem? (i := 2475) (by decide +kernel)
set_option maxRecDepth 100000 in
theorem mw_929 : (.methodLink RL 274 yL_team : Cond) ∈ lw_tbl := List.mem_of_getElem? (i := 1148) (by decide +kernel)
set_option maxRecDepth 100000 in
theorem mw_930 : (.static yL_team : Cond) ∈ lw_tbl := List.mem_of_getElem? (i := 1149) (by decide +kernel)
set_option maxRecDepth 100000 in
theorem mw_931 : (.methodLink RL 276 yX9_team : Cond) ∈ lw_tbl := List.mem_of_getElem? (i := 2478) (by decide +kernel)
set_option maxRecDepth 100000 in
theorem mw_932 : (.instanceMethod yX9_team : Cond) ∈ lw_tbl := List.mem_of_getElem? (i := 2479) (by decide +kernel)
set_option maxRecDepth 100000 in
theorem mw_933 : (.selects RX9 yX9_team yX9_team : Cond) ∈ lw_tbl := List.mem_of_getElem? (i := 2480) (by decide +kernel)
set_option maxRecDepth 100000 in
theorem mw_934 : (.methodLink RL 277 yL_runs : Cond) ∈ lw_tbl := List.mem_of_getElem? (i := 1160) (by decide +kernel)
set_option maxRecDepth 100000 in
theorem mw_935 : (.static yL_runs : Cond) ∈ lw_tbl := List.mem_of_getElem? (i := 1161) (by decide +kernel)
set_option maxRecDepth 100000 in
theorem mw_936 : (.methodLink RL 279 yX9_runs : Cond) ∈ lw_tbl := List.mem_of_getElem? (i := 2482) (by decide +kernel)
set_option maxRecDepth 100000 in
theorem mw_937 : (.instanceMethod yX9_runs : Cond) ∈ lw_tbl := List.mem_of_getElem? (i := 2483) (by decide +kernel)
set_option maxRecDepth 100000 in
theorem mw_938 : (.selects RX9 yX9_runs yX9_runs : Cond) ∈ lw_tbl := List.mem_of_getElem? (i := 2484) (by decide +kernel)
set_option maxRecDepth 100000 in
theorem mw_939 : (.methodLink RL 280 yX6_isFair : Cond) ∈ lw_tbl := List.mem_of_getElem? (i := 439) (by decide +kernel)
set_option maxRecDepth 100000 in
theorem mw_940 : (.instanceMethod yX6_isFair : Cond) ∈ lw_tbl := List.mem_of_getElem? (i := 440) (by decide +kernel)
set_option maxRecDepth 100000 in
theorem mw_941 : (.selects RX6 yX6_isFair yX6_isFair : Cond) ∈ lw_tbl := List.mem_of_getElem? (i := 441) (by decide +kernel)
set_option maxRecDepth 100000 in
theorem mw_942 : (.methodLink RL 284 yX9_isFair : Cond) ∈ lw_tbl := List.mem_of_getElem? (i := 2486) (by decide +kernel)
set_option maxRecDepth 100000 in
theorem mw_943 : (.instanceMethod yX9_isFair : Cond) ∈ lw_tbl := List.mem_of_getElem? (i := 2487) (by decide +kernel)
set_option maxRecDepth 100000 in
theorem mw_944 : (.selects RX9 yX9_isFair yX9_isFair : Cond) ∈ lw_tbl := List.mem_of_getElem? (i := 2488) (by decide +kernel)
set_option maxRecDepth 100000 in
theorem mw_945 : (.methodLink RL 285 yL_fairWays : Cond) ∈ lw_tbl := List.mem_of_getElem? (i := 1167) (by decide +kernel)
set_option maxRecDepth 100000 in
theorem mw_946 : (.static yL_fairWays : Cond) ∈ lw_tbl := List.mem_of_getElem? (i := 1168) (by decide +kernel)
set_option maxRecDepth 100000 in
theorem mw_947 : (.methodLink RL 288 yX9_fairWays : Cond) ∈ lw_tbl := List.mem_of_getElem? (i := 2537) (by decide +kernel)
set_option maxRecDepth 100000 in
theorem mw_948 : (.instanceMethod yX9_fairWays : Cond) ∈ lw_tbl := List.mem_of_getElem? (i := 2538) (by decide +kernel)
set_option maxRecDepth 100000 in
theorem mw_949 : (.selects RX9 yX9_fairWays yX9_fairWays : Cond) ∈ lw_tbl := List.mem_of_getElem? (i := 2539) (by decide +kernel)
set_option maxRecDepth 100000 in
theorem mw_950 : (.methodLink RL 289 yL_changeover : Cond) ∈ lw_tbl := List.mem_of_getElem? (i := 1183) (by decide +kernel)
set_option maxRecDepth 100000 in
theorem mw_951 : (.static yL_changeover : Cond) ∈ lw_tbl := List.mem_of_getElem? (i := 1184) (by decide +kernel)
set_option maxRecDepth 100000 in
theorem mw_952 : (.methodLink RL 291 yX9_changeover : Cond) ∈ lw_tbl := List.mem_of_getElem? (i := 2569) (by decide +kernel)
set_option maxRecDepth 100000 in
theorem mw_953 : (.instanceMethod yX9_changeover : Cond) ∈ lw_tbl := List.mem_of_getElem? (i := 2570) (by decide +kernel)
set_option maxRecDepth 100000 in
theorem mw_954 : (.selects RX9 yX9_changeover yX9_changeover : Cond) ∈ lw_tbl := List.mem_of_getElem? (i := 2571) (by decide +kernel)
set_option maxRecDepth 100000 in
theorem mw_955 : (.methodLink RL 292 yL_chase : Cond) ∈ lw_tbl := List.mem_of_getElem? (i := 1190) (by decide +kernel)
set_option maxRecDepth 100000 in
theorem mw_956 : (.static yL_chase : Cond) ∈ lw_tbl := List.mem_of_getElem? (i := 1191) (by decide +kernel)
set_option maxRecDepth 100000 in
theorem mw_957 : (.methodLink RL 294 yX9_chase : Cond) ∈ lw_tbl := List.mem_of_getElem? (i := 2574) (by decide +kernel)
set_option maxRecDepth 100000 in
theorem mw_958 : (.instanceMethod yX9_chase : Cond) ∈ lw_tbl := List.mem_of_getElem? (i := 2575) (by decide +kernel)
set_option maxRecDepth 100000 in
theorem mw_959 : (.selects RX9 yX9_chase yX9_chase : Cond) ∈ lw_tbl := List.mem_of_getElem? (i := 2576) (by decide +kernel)
set_option maxRecDepth 100000 in
theorem mw_960 : (.methodLink RL 295 yL_score : Cond) ∈ lw_tbl := List.mem_of_getElem? (i := 1202) (by decide +kernel)
set_option maxRecDepth 100000 in
theorem mw_961 : (.static yL_score : Cond) ∈ lw_tbl := List.mem_of_getElem? (i := 1203) (by decide +kernel)
set_option maxRecDepth 100000 in
theorem mw_962 : (.methodLink RL 297 yX9_score : Cond) ∈ lw_tbl := List.mem_of_getElem? (i := 2583) (by decide +kernel)
set_option maxRecDepth 100000 in
theorem mw_963 : (.instanceMethod yX9_score : Cond) ∈ lw_tbl := List.mem_of_getElem? (i := 2584) (by decide +kernel)
set_option maxRecDepth 100000 in
theorem mw_964 : (.selects RX9 yX9_score yX9_score : Cond) ∈ lw_tbl := List.mem_of_getElem? (i := 2585) (by decide +kernel)
set_option maxRecDepth 100000 in
theorem mw_965 : (.methodLink RL 298 yL_late : Cond) ∈ lw_tbl := List.mem_of_getElem? (i := 1237) (by decide +kernel)
set_option maxRecDepth 100000 in
theorem mw_966 : (.static yL_late : Cond) ∈ lw_tbl := List.mem_of_getElem? (i := 1238) (by decide +kernel)
set_option maxRecDepth 100000 in
theorem mw_967 : (.methodLink RL 300 yX9_late : Cond) ∈ lw_tbl := List.mem_of_getElem? (i := 2598) (by decide +kernel)
set_option maxRecDepth 100000 in
theorem mw_968 : (.instanceMethod yX9_late : Cond) ∈ lw_tbl := List.mem_of_getElem? (i := 2599) (by decide +kernel)
set_option maxRecDepth 100000 in
theorem mw_969 : (.selects RX9 yX9_late yX9_late : Cond) ∈ lw_tbl := List.mem_of_getElem? (i := 2600) (by decide +kernel)
set_option maxRecDepth 100000 in
theorem mw_970 : (.methodLink RL 301 yL_fix : Cond) ∈ lw_tbl := List.mem_of_getElem? (i := 1244) (by decide +kernel)
set_option maxRecDepth 100000 in
theorem mw_971 : (.static yL_fix : Cond) ∈ lw_tbl := List.mem_of_getElem? (i := 1245) (by decide +kernel)
set_option maxRecDepth 100000 in
theorem mw_972 : (.methodLink RL 303 yX9_fix : Cond) ∈ lw_tbl := List.mem_of_getElem? (i := 2602) (by decide +kernel)
set_option maxRecDepth 100000 in
theorem mw_973 : (.instanceMethod yX9_fix : Cond) ∈ lw_tbl := List.mem_of_getElem? (i := 2603) (by decide +kernel)
set_option maxRecDepth 100000 in
theorem mw_974 : (.selects RX9 yX9_fix yX9_fix : Cond) ∈ lw_tbl := List.mem_of_getElem? (i := 2604) (by decide +kernel)
set_option maxRecDepth 100000 in
theorem mw_975 : (.methodLink RL 304 yL_mayHave : Cond) ∈ lw_tbl := List.mem_of_getElem? (i := 1253) (by decide +kernel)
set_option maxRecDepth 100000 in
theorem mw_976 : (.static yL_mayHave : Cond) ∈ lw_tbl := List.mem_of_getElem? (i := 1254) (by decide +kernel)
set_option maxRecDepth 100000 in
theorem mw_977 : (.methodLink RL 306 yX9_mayHave : Cond) ∈ lw_tbl := List.mem_of_getElem? (i := 2606) (by decide +kernel)
set_option maxRecDepth 100000 in
theorem mw_978 : (.instanceMethod yX9_mayHave : Cond) ∈ lw_tbl := List.mem_of_getElem? (i := 2607) (by decide +kernel)
set_option maxRecDepth 100000 in
theorem mw_979 : (.selects RX9 yX9_mayHave yX9_mayHave : Cond) ∈ lw_tbl := List.mem_of_getElem? (i := 2608) (by decide +kernel)
set_option maxRecDepth 100000 in
theorem mw_980 : (.methodLink RL 307 yL_okShare : Cond) ∈ lw_tbl := List.mem_of_getElem? (i := 1264) (by decide +kernel)
set_option maxRecDepth 100000 in
theorem mw_981 : (.static yL_okShare : Cond) ∈ lw_tbl := List.mem_of_getElem? (i := 1265) (by decide +kernel)
set_option maxRecDepth 100000 in
theorem mw_982 : (.methodLink RL 310 yX9_okShare : Cond) ∈ lw_tbl := List.mem_of_getElem? (i := 2610) (by decide +kernel)
set_option maxRecDepth 100000 in
theorem mw_983 : (.instanceMethod yX9_okShare : Cond) ∈ lw_tbl := List.mem_of_getElem? (i := 2611) (by decide +kernel)
set_option maxRecDepth 100000 in
theorem mw_984 : (.selects RX9 yX9_okShare yX9_okShare : Cond) ∈ lw_tbl := List.mem_of_getElem? (i := 2612) (by decide +kernel)
set_option maxRecDepth 100000 in
theorem mw_985 : (.methodLink RL 311 yL_meanTime : Cond) ∈ lw_tbl := List.mem_of_getElem? (i := 1292) (by decide +kernel)
set_option maxRecDepth 100000 in
theorem mw_986 : (.static yL_meanTime : Cond) ∈ lw_tbl := List.mem_of_getElem? (i := 1293) (by decide +kernel)
set_option maxRecDepth 100000 in
theorem mw_987 : (.methodLink RL 313 yX9_meanTime : Cond) ∈ lw_tbl := List.mem_of_getElem? (i := 2614) (by decide +kernel)
set_option maxRecDepth 100000 in
theorem mw_988 : (.instanceMethod yX9_meanTime : Cond) ∈ lw_tbl := List.mem_of_getElem? (i := 2615) (by decide +kernel)
set_option maxRecDepth 100000 in
theorem mw_989 : (.selects RX9 yX9_meanTime yX9_meanTime : Cond) ∈ lw_tbl := List.mem_of_getElem? (i := 2616) (by decide +kernel)
set_option maxRecDepth 100000 in
theorem mw_990 : (.methodLink RL 314 yX6_checksum : Cond) ∈ lw_tbl := List.mem_of_getElem? (i := 478) (by decide +kernel)
set_option maxRecDepth 100000 in
theorem mw_991 : (.instanceMethod yX6_checksum : Cond) ∈ lw_tbl := List.mem_of_getElem? (i := 479) (by decide +kernel)
set_option maxRecDepth 100000 in
theorem mw_992 : (.selects RX6 yX6_checksum yX6_checksum : Cond) ∈ lw_tbl := List.mem_of_getElem? (i := 480) (by decide +kernel)
set_option maxRecDepth 100000 in
theorem mw_993 : (.methodLink RL 318 yX9_checksum : Cond) ∈ lw_tbl := List.mem_of_getElem? (i := 2618) (by decide +kernel)
set_option maxRecDepth 100000 in
theorem mw_994 : (.instanceMethod yX9_checksum : Cond) ∈ lw_tbl := List.mem_of_getElem? (i := 2619) (by decide +kernel)
set_option maxRecDepth 100000 in
theorem mw_995 : (.selects RX9 yX9_checksum yX9_checksum : Cond) ∈ lw_tbl := List.mem_of_getElem? (i := 2620) (by decide +kernel)
set_option maxRecDepth 100000 in
theorem mw_996 : (.methodLink RL 319 yX6_isSound : Cond) ∈ lw_tbl := List.mem_of_getElem? (i := 484) (by decide +kernel)
set_option maxRecDepth 100000 in
theorem mw_997 : (.instanceMethod yX6_isSound : Cond) ∈ lw_tbl := List.mem_of_getElem? (i := 485) (by decide +kernel)
set_option maxRecDepth 100000 in
theorem mw_998 : (.selects RX6 yX6_isSound yX6_isSound : Cond) ∈ lw_tbl := List.mem_of_getElem? (i := 486) (by decide +kernel)
set_option maxRecDepth 100000 in
theorem mw_999 : (.methodLink RL 322 yX9_isSound : Cond) ∈ lw_tbl := List.mem_of_getElem? (i := 2624) (by decide +kernel)
set_option maxRecDepth 100000 in
theorem mw_1000 : (.instanceMethod yX9_isSound : Cond) ∈ lw_tbl := List.mem_of_getElem? (i := 2625) (by decide +kernel)
set_option maxRecDepth 100000 in
theorem mw_1001 : (.selects RX9 yX9_isSound yX9_isSound : Cond) ∈ lw_tbl := List.mem_of_getElem? (i := 2626) (by decide +kernel)
