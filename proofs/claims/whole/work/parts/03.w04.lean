set_option maxRecDepth 20000 in
theorem tw_831 : Cond.instanceMethod yX10_copy ∈ WT := wt_4 110 rfl rfl
set_option maxRecDepth 20000 in
theorem tw_832 : Cond.selects RX10 yX10_copy yX10_copy ∈ WT := wt_4 111 rfl rfl
set_option maxRecDepth 20000 in
theorem tw_833 : Cond.code yX10_copy cX10_copy 8 (Option.some Jvm.ClassFile.FieldType.int) ∈ WT := wt_4 112 rfl rfl
set_option maxRecDepth 20000 in
theorem tw_834 : Cond.methodLink RX10 291 yX6_sort ∈ WT := wt_4 113 rfl rfl
set_option maxRecDepth 20000 in
theorem tw_835 : Cond.instanceMethod yX6_sort ∈ WT := wt_4 114 rfl rfl
set_option maxRecDepth 20000 in
theorem tw_836 : Cond.selects RX6 yX6_sort yX6_sort ∈ WT := wt_4 115 rfl rfl
set_option maxRecDepth 20000 in
theorem tw_837 : Cond.code yX6_sort cX6_sort 1 (Option.some Jvm.ClassFile.FieldType.int) ∈ WT := wt_4 116 rfl rfl
set_option maxRecDepth 20000 in
theorem tw_838 : Cond.methodLink RX10 294 yX6_hasRun ∈ WT := wt_4 117 rfl rfl
set_option maxRecDepth 20000 in
theorem tw_839 : Cond.instanceMethod yX6_hasRun ∈ WT := wt_4 118 rfl rfl
set_option maxRecDepth 20000 in
theorem tw_840 : Cond.selects RX6 yX6_hasRun yX6_hasRun ∈ WT := wt_4 119 rfl rfl
set_option maxRecDepth 20000 in
theorem tw_841 : Cond.code yX6_hasRun cX6_hasRun 3 (Option.some Jvm.ClassFile.FieldType.boolean) ∈ WT := wt_4 120 rfl rfl
set_option maxRecDepth 20000 in
theorem tw_842 : Cond.methodLink RX10 297 yX6_takeRun ∈ WT := wt_4 121 rfl rfl
set_option maxRecDepth 20000 in
theorem tw_843 : Cond.instanceMethod yX6_takeRun ∈ WT := wt_4 122 rfl rfl
set_option maxRecDepth 20000 in
theorem tw_844 : Cond.selects RX6 yX6_takeRun yX6_takeRun ∈ WT := wt_4 123 rfl rfl
set_option maxRecDepth 20000 in
theorem tw_845 : Cond.code yX6_takeRun cX6_takeRun 5 (Option.none : Option Jvm.ClassFile.FieldType) ∈ WT := wt_4 124 rfl rfl
set_option maxRecDepth 20000 in
theorem tw_846 : Cond.methodLink RX6 30 ⟨"java/lang/System", "arraycopy", "(Ljava/lang/Object;ILjava/lang/Object;II)V"⟩ ∈ WT := wt_4 125 rfl rfl
set_option maxRecDepth 20000 in
theorem tw_847 : Cond.methodLink RL 165 yX10_lay ∈ WT := wt_4 126 rfl rfl
set_option maxRecDepth 20000 in
theorem tw_848 : Cond.instanceMethod yX10_lay ∈ WT := wt_4 127 rfl rfl
set_option maxRecDepth 20000 in
theorem tw_849 : Cond.selects RX10 yX10_lay yX10_lay ∈ WT := wt_4 128 rfl rfl
set_option maxRecDepth 20000 in
theorem tw_850 : Cond.code yX10_lay cX10_lay 7 (Option.some Jvm.ClassFile.FieldType.int) ∈ WT := wt_4 129 rfl rfl
set_option maxRecDepth 20000 in
theorem tw_851 : Cond.methodLink RX10 301 yX3_size ∈ WT := wt_4 130 rfl rfl
set_option maxRecDepth 20000 in
theorem tw_852 : Cond.instanceMethod yX3_size ∈ WT := wt_4 131 rfl rfl
set_option maxRecDepth 20000 in
theorem tw_853 : Cond.selects RX3 yX3_size yX3_size ∈ WT := wt_4 132 rfl rfl
set_option maxRecDepth 20000 in
theorem tw_854 : Cond.code yX3_size cX3_size 1 (Option.some Jvm.ClassFile.FieldType.int) ∈ WT := wt_4 133 rfl rfl
set_option maxRecDepth 20000 in
theorem tw_855 : Cond.methodLink RX10 302 yJ9_min_7cf53 ∈ WT := wt_4 134 rfl rfl
set_option maxRecDepth 20000 in
theorem tw_856 : Cond.methodLink RL 169 yX10_image ∈ WT := wt_4 135 rfl rfl
set_option maxRecDepth 20000 in
theorem tw_857 : Cond.instanceMethod yX10_image ∈ WT := wt_4 136 rfl rfl
set_option maxRecDepth 20000 in
theorem tw_858 : Cond.selects RX10 yX10_image yX10_image ∈ WT := wt_4 137 rfl rfl
set_option maxRecDepth 20000 in
theorem tw_859 : Cond.code yX10_image cX10_image 1 (Option.some Jvm.ClassFile.FieldType.int) ∈ WT := wt_4 138 rfl rfl
set_option maxRecDepth 20000 in
theorem tw_860 : Cond.methodLink RX10 307 yX5_become ∈ WT := wt_4 139 rfl rfl
set_option maxRecDepth 20000 in
theorem tw_861 : Cond.instanceMethod yX5_become ∈ WT := wt_4 140 rfl rfl
set_option maxRecDepth 20000 in
theorem tw_862 : Cond.selects RX5 yX5_become yX5_become ∈ WT := wt_4 141 rfl rfl
set_option maxRecDepth 20000 in
theorem tw_863 : Cond.code yX5_become cX5_become 2 (Option.none : Option Jvm.ClassFile.FieldType) ∈ WT := wt_4 142 rfl rfl
set_option maxRecDepth 20000 in
theorem tw_864 : Cond.methodLink RX5 24 ⟨"java/lang/System", "arraycopy", "(Ljava/lang/Object;ILjava/lang/Object;II)V"⟩ ∈ WT := wt_4 143 rfl rfl
set_option maxRecDepth 20000 in
theorem tw_865 : Cond.methodLink RL 173 yX10_back ∈ WT := wt_4 144 rfl rfl
set_option maxRecDepth 20000 in
theorem tw_866 : Cond.instanceMethod yX10_back ∈ WT := wt_4 145 rfl rfl
set_option maxRecDepth 20000 in
theorem tw_867 : Cond.selects RX10 yX10_back yX10_back ∈ WT := wt_4 146 rfl rfl
set_option maxRecDepth 20000 in
theorem tw_868 : Cond.code yX10_back cX10_back 1 (Option.some Jvm.ClassFile.FieldType.int) ∈ WT := wt_4 147 rfl rfl
set_option maxRecDepth 20000 in
theorem tw_869 : Cond.methodLink RL 177 yX10_count ∈ WT := wt_4 148 rfl rfl
set_option maxRecDepth 20000 in
theorem tw_870 : Cond.instanceMethod yX10_count ∈ WT := wt_4 149 rfl rfl
set_option maxRecDepth 20000 in
theorem tw_871 : Cond.selects RX10 yX10_count yX10_count ∈ WT := wt_4 150 rfl rfl
set_option maxRecDepth 20000 in
theorem tw_872 : Cond.code yX10_count cX10_count 2 (Option.some Jvm.ClassFile.FieldType.int) ∈ WT := wt_4 151 rfl rfl
set_option maxRecDepth 20000 in
theorem tw_873 : Cond.classLink RL 10 RX11 ∈ WT := wt_4 152 rfl rfl
set_option maxRecDepth 20000 in
theorem tw_874 : Cond.instantiable RX11 27 ∈ WT := wt_4 153 rfl rfl
set_option maxRecDepth 20000 in
theorem tw_875 : Cond.methodLink RL 12 yX11_init ∈ WT := wt_4 154 rfl rfl
set_option maxRecDepth 20000 in
theorem tw_876 : Cond.instanceMethod yX11_init ∈ WT := wt_4 155 rfl rfl
set_option maxRecDepth 20000 in
theorem tw_877 : Cond.code yX11_init cX11_init 1 (Option.none : Option Jvm.ClassFile.FieldType) ∈ WT := wt_4 156 rfl rfl
set_option maxRecDepth 20000 in
theorem tw_878 : Cond.methodLink RX11 1 ⟨"java/lang/Object", "<init>", "()V"⟩ ∈ WT := wt_4 157 rfl rfl
set_option maxRecDepth 20000 in
theorem tw_879 : Cond.classLink RX11 32 RJ0 ∈ WT := wt_4 158 rfl rfl
set_option maxRecDepth 20000 in
theorem tw_885 : Cond.fieldLink RX11 7 "StatuteBookModel" "now" "[I" ∈ WT := wt_4 164 rfl rfl
set_option maxRecDepth 20000 in
theorem tw_886 : Cond.fieldLink RX11 13 "StatuteBookModel" "marked" "[I" ∈ WT := wt_4 165 rfl rfl
set_option maxRecDepth 20000 in
theorem tw_887 : Cond.fieldLink RX11 16 "StatuteBookModel" "kept" "[I" ∈ WT := wt_4 166 rfl rfl
set_option maxRecDepth 20000 in
theorem tw_888 : Cond.fieldLink RX11 61 "StatuteBookModel" "many" "I" ∈ WT := wt_4 167 rfl rfl
set_option maxRecDepth 20000 in
theorem tw_889 : Cond.fieldLink RX11 177 "StatuteBookModel" "markedMany" "I" ∈ WT := wt_4 168 rfl rfl
set_option maxRecDepth 20000 in
theorem tw_890 : Cond.fieldLink RX11 19 "StatuteBookModel" "z" "I" ∈ WT := wt_4 169 rfl rfl
set_option maxRecDepth 20000 in
theorem tw_891 : Cond.fieldLink RX11 107 "StatuteBookModel" "holding" "I" ∈ WT := wt_4 170 rfl rfl
set_option maxRecDepth 20000 in
theorem tw_892 : Cond.fieldLink RX11 110 "StatuteBookModel" "standing" "I" ∈ WT := wt_4 171 rfl rfl
set_option maxRecDepth 20000 in
theorem tw_893 : Cond.fieldLink RX11 23 "StatuteBookModel" "files" "[I" ∈ WT := wt_4 172 rfl rfl
set_option maxRecDepth 20000 in
theorem tw_894 : Cond.fieldLink RX11 26 "StatuteBookModel" "often" "[I" ∈ WT := wt_4 173 rfl rfl
set_option maxRecDepth 20000 in
theorem tw_895 : Cond.fieldLink RX11 183 "StatuteBookModel" "fileMany" "I" ∈ WT := wt_4 174 rfl rfl
set_option maxRecDepth 20000 in
theorem tw_896 : Cond.fieldLink RX11 29 "StatuteBookModel" "tape" "[I" ∈ WT := wt_4 175 rfl rfl
set_option maxRecDepth 20000 in
theorem tw_897 : Cond.fieldLink RX11 189 "StatuteBookModel" "taped" "I" ∈ WT := wt_4 176 rfl rfl
set_option maxRecDepth 20000 in
theorem tw_898 : Cond.fieldLink RX11 198 "StatuteBookModel" "from" "I" ∈ WT := wt_4 177 rfl rfl
set_option maxRecDepth 20000 in
theorem tw_899 : Cond.fieldLink RX11 192 "StatuteBookModel" "to" "I" ∈ WT := wt_4 178 rfl rfl
set_option maxRecDepth 20000 in
theorem tw_900 : Cond.fieldLink RX11 204 "StatuteBookModel" "token" "I" ∈ WT := wt_4 179 rfl rfl
set_option maxRecDepth 20000 in
theorem tw_901 : Cond.fieldLink RX11 201 "StatuteBookModel" "worth" "I" ∈ WT := wt_4 180 rfl rfl
set_option maxRecDepth 20000 in
theorem tw_902 : Cond.fieldLink RX11 42 "StatuteBookModel" "traits" "[Ljava/lang/String;" ∈ WT := wt_4 181 rfl rfl
set_option maxRecDepth 20000 in
theorem tw_903 : Cond.fieldLink RX11 46 "StatuteBookModel" "sort" "[I" ∈ WT := wt_4 182 rfl rfl
set_option maxRecDepth 20000 in
theorem tw_904 : Cond.fieldLink RX11 49 "StatuteBookModel" "size" "[I" ∈ WT := wt_4 183 rfl rfl
set_option maxRecDepth 20000 in
theorem tw_905 : Cond.fieldLink RX11 52 "StatuteBookModel" "items" "[I" ∈ WT := wt_4 184 rfl rfl
set_option maxRecDepth 20000 in
theorem tw_906 : Cond.fieldLink RX11 55 "StatuteBookModel" "keptFiles" "[I" ∈ WT := wt_4 185 rfl rfl
set_option maxRecDepth 20000 in
theorem tw_907 : Cond.fieldLink RX11 58 "StatuteBookModel" "keptOften" "[I" ∈ WT := wt_4 186 rfl rfl
set_option maxRecDepth 20000 in
theorem tw_908 : Cond.fieldLink RX11 282 "StatuteBookModel" "keptMany" "I" ∈ WT := wt_4 187 rfl rfl
set_option maxRecDepth 20000 in
theorem tw_909 : Cond.fieldLink RX11 285 "StatuteBookModel" "keptFileMany" "I" ∈ WT := wt_4 188 rfl rfl
set_option maxRecDepth 20000 in
theorem tw_910 : Cond.fieldLink RX11 288 "StatuteBookModel" "keptZ" "I" ∈ WT := wt_4 189 rfl rfl
set_option maxRecDepth 20000 in
theorem tw_911 : Cond.fieldLink RX11 291 "StatuteBookModel" "hasImage" "Z" ∈ WT := wt_4 190 rfl rfl
set_option maxRecDepth 20000 in
theorem tw_912 : Cond.laysFinal RX11 "StatuteBookModel" "now" "[I" ∈ WT := wt_4 191 rfl rfl
set_option maxRecDepth 20000 in
theorem tw_914 : Cond.laysFinal RX11 "StatuteBookModel" "marked" "[I" ∈ WT := wt_4 193 rfl rfl
set_option maxRecDepth 20000 in
theorem tw_916 : Cond.laysFinal RX11 "StatuteBookModel" "kept" "[I" ∈ WT := wt_4 195 rfl rfl
set_option maxRecDepth 20000 in
theorem tw_918 : Cond.lays RX11 "StatuteBookModel" "many" "I" ∈ WT := wt_4 197 rfl rfl
set_option maxRecDepth 20000 in
theorem tw_920 : Cond.lays RX11 "StatuteBookModel" "markedMany" "I" ∈ WT := wt_4 199 rfl rfl
set_option maxRecDepth 20000 in
theorem tw_922 : Cond.lays RX11 "StatuteBookModel" "z" "I" ∈ WT := wt_4 201 rfl rfl
set_option maxRecDepth 20000 in
theorem tw_924 : Cond.lays RX11 "StatuteBookModel" "holding" "I" ∈ WT := wt_4 203 rfl rfl
set_option maxRecDepth 20000 in
theorem tw_926 : Cond.lays RX11 "StatuteBookModel" "standing" "I" ∈ WT := wt_4 205 rfl rfl
set_option maxRecDepth 20000 in
theorem tw_928 : Cond.laysFinal RX11 "StatuteBookModel" "files" "[I" ∈ WT := wt_4 207 rfl rfl
set_option maxRecDepth 20000 in
theorem tw_930 : Cond.laysFinal RX11 "StatuteBookModel" "often" "[I" ∈ WT := wt_4 209 rfl rfl
set_option maxRecDepth 20000 in
theorem tw_932 : Cond.lays RX11 "StatuteBookModel" "fileMany" "I" ∈ WT := wt_4 211 rfl rfl
set_option maxRecDepth 20000 in
theorem tw_934 : Cond.laysFinal RX11 "StatuteBookModel" "tape" "[I" ∈ WT := wt_4 213 rfl rfl
set_option maxRecDepth 20000 in
theorem tw_936 : Cond.lays RX11 "StatuteBookModel" "taped" "I" ∈ WT := wt_4 215 rfl rfl
set_option maxRecDepth 20000 in
theorem tw_938 : Cond.lays RX11 "StatuteBookModel" "from" "I" ∈ WT := wt_4 217 rfl rfl
set_option maxRecDepth 20000 in
theorem tw_940 : Cond.lays RX11 "StatuteBookModel" "to" "I" ∈ WT := wt_4 219 rfl rfl
set_option maxRecDepth 20000 in
theorem tw_942 : Cond.lays RX11 "StatuteBookModel" "token" "I" ∈ WT := wt_4 221 rfl rfl
set_option maxRecDepth 20000 in
theorem tw_944 : Cond.lays RX11 "StatuteBookModel" "worth" "I" ∈ WT := wt_4 223 rfl rfl
set_option maxRecDepth 20000 in
theorem tw_946 : Cond.laysFinal RX11 "StatuteBookModel" "traits" "[Ljava/lang/String;" ∈ WT := wt_4 225 rfl rfl
set_option maxRecDepth 20000 in
theorem tw_948 : Cond.laysFinal RX11 "StatuteBookModel" "sort" "[I" ∈ WT := wt_4 227 rfl rfl
set_option maxRecDepth 20000 in
theorem tw_950 : Cond.laysFinal RX11 "StatuteBookModel" "size" "[I" ∈ WT := wt_4 229 rfl rfl
set_option maxRecDepth 20000 in
theorem tw_952 : Cond.laysFinal RX11 "StatuteBookModel" "items" "[I" ∈ WT := wt_4 231 rfl rfl
set_option maxRecDepth 20000 in
theorem tw_954 : Cond.laysFinal RX11 "StatuteBookModel" "keptFiles" "[I" ∈ WT := wt_4 233 rfl rfl
set_option maxRecDepth 20000 in
theorem tw_956 : Cond.laysFinal RX11 "StatuteBookModel" "keptOften" "[I" ∈ WT := wt_4 235 rfl rfl
set_option maxRecDepth 20000 in
theorem tw_958 : Cond.lays RX11 "StatuteBookModel" "keptMany" "I" ∈ WT := wt_4 237 rfl rfl
set_option maxRecDepth 20000 in
theorem tw_960 : Cond.lays RX11 "StatuteBookModel" "keptFileMany" "I" ∈ WT := wt_4 239 rfl rfl
set_option maxRecDepth 20000 in
theorem tw_962 : Cond.lays RX11 "StatuteBookModel" "keptZ" "I" ∈ WT := wt_5 1 rfl rfl
set_option maxRecDepth 20000 in
theorem tw_964 : Cond.lays RX11 "StatuteBookModel" "hasImage" "Z" ∈ WT := wt_5 3 rfl rfl
set_option maxRecDepth 20000 in
theorem tw_967 : Cond.methodLink RL 17 yX11_clause ∈ WT := wt_5 6 rfl rfl
set_option maxRecDepth 20000 in
theorem tw_968 : Cond.instanceMethod yX11_clause ∈ WT := wt_5 7 rfl rfl
set_option maxRecDepth 20000 in
theorem tw_969 : Cond.selects RX11 yX11_clause yX11_clause ∈ WT := wt_5 8 rfl rfl
set_option maxRecDepth 20000 in
theorem tw_970 : Cond.code yX11_clause cX11_clause 1 (Option.some Jvm.ClassFile.FieldType.int) ∈ WT := wt_5 9 rfl rfl
set_option maxRecDepth 20000 in
theorem tw_971 : Cond.methodLink RX11 72 yX11_comes ∈ WT := wt_5 10 rfl rfl
set_option maxRecDepth 20000 in
theorem tw_973 : Cond.instanceMethod yX11_comes ∈ WT := wt_5 12 rfl rfl
set_option maxRecDepth 20000 in
theorem tw_974 : Cond.code yX11_comes cX11_comes 2 (Option.none : Option Jvm.ClassFile.FieldType) ∈ WT := wt_5 13 rfl rfl
set_option maxRecDepth 20000 in
theorem tw_975 : Cond.methodLink RX11 68 yX11_sets ∈ WT := wt_5 14 rfl rfl
set_option maxRecDepth 20000 in
theorem tw_977 : Cond.instanceMethod yX11_sets ∈ WT := wt_5 16 rfl rfl
set_option maxRecDepth 20000 in
theorem tw_978 : Cond.code yX11_sets cX11_sets 4 (Option.none : Option Jvm.ClassFile.FieldType) ∈ WT := wt_5 17 rfl rfl
set_option maxRecDepth 20000 in
theorem tw_979 : Cond.methodLink RL 22 yX11_test ∈ WT := wt_5 18 rfl rfl
set_option maxRecDepth 20000 in
theorem tw_980 : Cond.instanceMethod yX11_test ∈ WT := wt_5 19 rfl rfl
set_option maxRecDepth 20000 in
theorem tw_981 : Cond.selects RX11 yX11_test yX11_test ∈ WT := wt_5 20 rfl rfl
set_option maxRecDepth 20000 in
theorem tw_982 : Cond.code yX11_test cX11_test 8 (Option.some Jvm.ClassFile.FieldType.int) ∈ WT := wt_5 21 rfl rfl
set_option maxRecDepth 20000 in
theorem tw_983 : Cond.methodLink RX11 75 yX11_isClause ∈ WT := wt_5 22 rfl rfl
set_option maxRecDepth 20000 in
theorem tw_985 : Cond.instanceMethod yX11_isClause ∈ WT := wt_5 24 rfl rfl
set_option maxRecDepth 20000 in
theorem tw_986 : Cond.code yX11_isClause cX11_isClause 2 (Option.some Jvm.ClassFile.FieldType.boolean) ∈ WT := wt_5 25 rfl rfl
set_option maxRecDepth 20000 in
theorem tw_987 : Cond.methodLink RX11 64 yX11_in ∈ WT := wt_5 26 rfl rfl
set_option maxRecDepth 20000 in
theorem tw_988 : Cond.static yX11_in ∈ WT := wt_5 27 rfl rfl
set_option maxRecDepth 20000 in
theorem tw_989 : Cond.code yX11_in cX11_in 3 (Option.some Jvm.ClassFile.FieldType.boolean) ∈ WT := wt_5 28 rfl rfl
set_option maxRecDepth 20000 in
theorem tw_990 : Cond.methodLink RX11 79 yX11_isTrait ∈ WT := wt_5 29 rfl rfl
set_option maxRecDepth 20000 in
theorem tw_991 : Cond.static yX11_isTrait ∈ WT := wt_5 30 rfl rfl
set_option maxRecDepth 20000 in
theorem tw_992 : Cond.code yX11_isTrait cX11_isTrait 2 (Option.some Jvm.ClassFile.FieldType.boolean) ∈ WT := wt_5 31 rfl rfl
set_option maxRecDepth 20000 in
theorem tw_993 : Cond.methodLink RX11 83 yX11_is ∈ WT := wt_5 32 rfl rfl
set_option maxRecDepth 20000 in
theorem tw_995 : Cond.instanceMethod yX11_is ∈ WT := wt_5 34 rfl rfl
set_option maxRecDepth 20000 in
theorem tw_996 : Cond.code yX11_is cX11_is 3 (Option.some Jvm.ClassFile.FieldType.int) ∈ WT := wt_5 35 rfl rfl
set_option maxRecDepth 20000 in
theorem tw_997 : Cond.methodLink RL 26 yX11_grant ∈ WT := wt_5 36 rfl rfl
set_option maxRecDepth 20000 in
theorem tw_998 : Cond.instanceMethod yX11_grant ∈ WT := wt_5 37 rfl rfl
set_option maxRecDepth 20000 in
theorem tw_999 : Cond.selects RX11 yX11_grant yX11_grant ∈ WT := wt_5 38 rfl rfl
set_option maxRecDepth 20000 in
theorem tw_1000 : Cond.code yX11_grant cX11_grant 7 (Option.some Jvm.ClassFile.FieldType.int) ∈ WT := wt_5 39 rfl rfl
set_option maxRecDepth 20000 in
theorem tw_1001 : Cond.methodLink RX11 87 yX11_isLess ∈ WT := wt_5 40 rfl rfl
set_option maxRecDepth 20000 in
theorem tw_1002 : Cond.static yX11_isLess ∈ WT := wt_5 41 rfl rfl
set_option maxRecDepth 20000 in
theorem tw_1003 : Cond.code yX11_isLess cX11_isLess 2 (Option.some Jvm.ClassFile.FieldType.boolean) ∈ WT := wt_5 42 rfl rfl
set_option maxRecDepth 20000 in
theorem tw_1004 : Cond.methodLink RL 31 yX11_span ∈ WT := wt_5 43 rfl rfl
set_option maxRecDepth 20000 in
theorem tw_1005 : Cond.instanceMethod yX11_span ∈ WT := wt_5 44 rfl rfl
set_option maxRecDepth 20000 in
theorem tw_1006 : Cond.selects RX11 yX11_span yX11_span ∈ WT := wt_5 45 rfl rfl
set_option maxRecDepth 20000 in
theorem tw_1007 : Cond.code yX11_span cX11_span 4 (Option.some Jvm.ClassFile.FieldType.int) ∈ WT := wt_5 46 rfl rfl
set_option maxRecDepth 20000 in
theorem tw_1008 : Cond.methodLink RL 36 yX11_except ∈ WT := wt_5 47 rfl rfl
set_option maxRecDepth 20000 in
theorem tw_1009 : Cond.instanceMethod yX11_except ∈ WT := wt_5 48 rfl rfl
set_option maxRecDepth 20000 in
theorem tw_1010 : Cond.selects RX11 yX11_except yX11_except ∈ WT := wt_5 49 rfl rfl
set_option maxRecDepth 20000 in
theorem tw_1011 : Cond.code yX11_except cX11_except 4 (Option.some Jvm.ClassFile.FieldType.int) ∈ WT := wt_5 50 rfl rfl
set_option maxRecDepth 20000 in
theorem tw_1012 : Cond.methodLink RL 40 yX11_of ∈ WT := wt_5 51 rfl rfl
set_option maxRecDepth 20000 in
theorem tw_1013 : Cond.instanceMethod yX11_of ∈ WT := wt_5 52 rfl rfl
set_option maxRecDepth 20000 in
theorem tw_1014 : Cond.selects RX11 yX11_of yX11_of ∈ WT := wt_5 53 rfl rfl
set_option maxRecDepth 20000 in
theorem tw_1015 : Cond.code yX11_of cX11_of 3 (Option.some Jvm.ClassFile.FieldType.int) ∈ WT := wt_5 54 rfl rfl
set_option maxRecDepth 20000 in
theorem tw_1016 : Cond.methodLink RL 44 yX11_drop ∈ WT := wt_5 55 rfl rfl
set_option maxRecDepth 20000 in
theorem tw_1017 : Cond.instanceMethod yX11_drop ∈ WT := wt_5 56 rfl rfl
set_option maxRecDepth 20000 in
theorem tw_1018 : Cond.selects RX11 yX11_drop yX11_drop ∈ WT := wt_5 57 rfl rfl
set_option maxRecDepth 20000 in
theorem tw_1019 : Cond.code yX11_drop cX11_drop 1 (Option.some Jvm.ClassFile.FieldType.int) ∈ WT := wt_5 58 rfl rfl
set_option maxRecDepth 20000 in
theorem tw_1020 : Cond.methodLink RL 48 yX11_profile ∈ WT := wt_5 59 rfl rfl
set_option maxRecDepth 20000 in
theorem tw_1021 : Cond.instanceMethod yX11_profile ∈ WT := wt_5 60 rfl rfl
set_option maxRecDepth 20000 in
theorem tw_1022 : Cond.selects RX11 yX11_profile yX11_profile ∈ WT := wt_5 61 rfl rfl
set_option maxRecDepth 20000 in
theorem tw_1023 : Cond.code yX11_profile cX11_profile 6 (Option.some Jvm.ClassFile.FieldType.int) ∈ WT := wt_5 62 rfl rfl
set_option maxRecDepth 20000 in
theorem tw_1024 : Cond.constant RX11 92 (100000) ∈ WT := wt_5 63 rfl rfl
set_option maxRecDepth 20000 in
theorem tw_1025 : Cond.constant RX11 93 (800000) ∈ WT := wt_5 64 rfl rfl
set_option maxRecDepth 20000 in
theorem tw_1026 : Cond.methodLink RL 52 yX11_trait ∈ WT := wt_5 65 rfl rfl
set_option maxRecDepth 20000 in
theorem tw_1027 : Cond.instanceMethod yX11_trait ∈ WT := wt_5 66 rfl rfl
set_option maxRecDepth 20000 in
theorem tw_1028 : Cond.selects RX11 yX11_trait yX11_trait ∈ WT := wt_5 67 rfl rfl
set_option maxRecDepth 20000 in
theorem tw_1029 : Cond.code yX11_trait cX11_trait 3 (Option.some Jvm.ClassFile.FieldType.int) ∈ WT := wt_5 68 rfl rfl
set_option maxRecDepth 20000 in
theorem tw_1030 : Cond.methodLink RX11 104 yX11_isProfile ∈ WT := wt_5 69 rfl rfl
set_option maxRecDepth 20000 in
theorem tw_1031 : Cond.static yX11_isProfile ∈ WT := wt_5 70 rfl rfl
set_option maxRecDepth 20000 in
theorem tw_1032 : Cond.code yX11_isProfile cX11_isProfile 1 (Option.some Jvm.ClassFile.FieldType.boolean) ∈ WT := wt_5 71 rfl rfl
set_option maxRecDepth 20000 in
theorem tw_1033 : Cond.constant RX11 91 (25599999) ∈ WT := wt_5 72 rfl rfl
set_option maxRecDepth 20000 in
theorem tw_1034 : Cond.methodLink RX11 101 yX11_traitOf ∈ WT := wt_5 73 rfl rfl
set_option maxRecDepth 20000 in
theorem tw_1035 : Cond.static yX11_traitOf ∈ WT := wt_5 74 rfl rfl
set_option maxRecDepth 20000 in
theorem tw_1036 : Cond.code yX11_traitOf cX11_traitOf 2 (Option.some Jvm.ClassFile.FieldType.int) ∈ WT := wt_5 75 rfl rfl
set_option maxRecDepth 20000 in
theorem tw_1037 : Cond.methodLink RX11 94 yX11_by ∈ WT := wt_5 76 rfl rfl
set_option maxRecDepth 20000 in
theorem tw_1038 : Cond.static yX11_by ∈ WT := wt_5 77 rfl rfl
set_option maxRecDepth 20000 in
theorem tw_1039 : Cond.code yX11_by cX11_by 1 (Option.some Jvm.ClassFile.FieldType.int) ∈ WT := wt_5 78 rfl rfl
set_option maxRecDepth 20000 in
theorem tw_1040 : Cond.methodLink RX11 98 yX11_sizeOf ∈ WT := wt_5 79 rfl rfl
set_option maxRecDepth 20000 in
theorem tw_1041 : Cond.static yX11_sizeOf ∈ WT := wt_5 80 rfl rfl
set_option maxRecDepth 20000 in
theorem tw_1042 : Cond.code yX11_sizeOf cX11_sizeOf 1 (Option.some Jvm.ClassFile.FieldType.int) ∈ WT := wt_5 81 rfl rfl
set_option maxRecDepth 20000 in
theorem tw_1043 : Cond.methodLink RL 56 yX11_outcome ∈ WT := wt_5 82 rfl rfl
set_option maxRecDepth 20000 in
theorem tw_1044 : Cond.instanceMethod yX11_outcome ∈ WT := wt_5 83 rfl rfl
set_option maxRecDepth 20000 in
theorem tw_1045 : Cond.selects RX11 yX11_outcome yX11_outcome ∈ WT := wt_5 84 rfl rfl
set_option maxRecDepth 20000 in
theorem tw_1046 : Cond.code yX11_outcome cX11_outcome 3 (Option.some Jvm.ClassFile.FieldType.int) ∈ WT := wt_5 85 rfl rfl
set_option maxRecDepth 20000 in
theorem tw_1047 : Cond.methodLink RX11 139 yX11_isAsked ∈ WT := wt_5 86 rfl rfl
set_option maxRecDepth 20000 in
theorem tw_1048 : Cond.static yX11_isAsked ∈ WT := wt_5 87 rfl rfl
set_option maxRecDepth 20000 in
theorem tw_1049 : Cond.code yX11_isAsked cX11_isAsked 2 (Option.some Jvm.ClassFile.FieldType.boolean) ∈ WT := wt_5 88 rfl rfl
set_option maxRecDepth 20000 in
theorem tw_1050 : Cond.methodLink RX11 136 yX11_isDay ∈ WT := wt_5 89 rfl rfl
set_option maxRecDepth 20000 in
theorem tw_1051 : Cond.static yX11_isDay ∈ WT := wt_5 90 rfl rfl
set_option maxRecDepth 20000 in
theorem tw_1052 : Cond.code yX11_isDay cX11_isDay 1 (Option.some Jvm.ClassFile.FieldType.boolean) ∈ WT := wt_5 91 rfl rfl
set_option maxRecDepth 20000 in
theorem tw_1053 : Cond.methodLink RX11 142 yX11_isNow ∈ WT := wt_5 92 rfl rfl
set_option maxRecDepth 20000 in
theorem tw_1055 : Cond.instanceMethod yX11_isNow ∈ WT := wt_5 94 rfl rfl
set_option maxRecDepth 20000 in
theorem tw_1056 : Cond.code yX11_isNow cX11_isNow 3 (Option.some Jvm.ClassFile.FieldType.int) ∈ WT := wt_5 95 rfl rfl
set_option maxRecDepth 20000 in
theorem tw_1057 : Cond.methodLink RX11 132 yX11_outcomeOf ∈ WT := wt_5 96 rfl rfl
set_option maxRecDepth 20000 in
theorem tw_1059 : Cond.instanceMethod yX11_outcomeOf ∈ WT := wt_5 98 rfl rfl
set_option maxRecDepth 20000 in
theorem tw_1060 : Cond.code yX11_outcomeOf cX11_outcomeOf 7 (Option.some Jvm.ClassFile.FieldType.int) ∈ WT := wt_5 99 rfl rfl
set_option maxRecDepth 20000 in
theorem tw_1061 : Cond.methodLink RX11 120 yX11_looks ∈ WT := wt_5 100 rfl rfl
set_option maxRecDepth 20000 in
theorem tw_1063 : Cond.instanceMethod yX11_looks ∈ WT := wt_5 102 rfl rfl
set_option maxRecDepth 20000 in
theorem tw_1064 : Cond.code yX11_looks cX11_looks 8 (Option.none : Option Jvm.ClassFile.FieldType) ∈ WT := wt_5 103 rfl rfl
set_option maxRecDepth 20000 in
theorem tw_1065 : Cond.methodLink RX11 113 yX11_isOfSpan ∈ WT := wt_5 104 rfl rfl
set_option maxRecDepth 20000 in
theorem tw_1066 : Cond.static yX11_isOfSpan ∈ WT := wt_5 105 rfl rfl
set_option maxRecDepth 20000 in
theorem tw_1067 : Cond.code yX11_isOfSpan cX11_isOfSpan 3 (Option.some Jvm.ClassFile.FieldType.boolean) ∈ WT := wt_5 106 rfl rfl
set_option maxRecDepth 20000 in
theorem tw_1068 : Cond.methodLink RX11 117 yX11_isSo ∈ WT := wt_5 107 rfl rfl
set_option maxRecDepth 20000 in
theorem tw_1069 : Cond.static yX11_isSo ∈ WT := wt_5 108 rfl rfl
set_option maxRecDepth 20000 in
theorem tw_1070 : Cond.code yX11_isSo cX11_isSo 7 (Option.some Jvm.ClassFile.FieldType.boolean) ∈ WT := wt_5 109 rfl rfl
set_option maxRecDepth 20000 in
theorem tw_1071 : Cond.methodLink RX11 124 yX11_counts ∈ WT := wt_5 110 rfl rfl
set_option maxRecDepth 20000 in
theorem tw_1073 : Cond.instanceMethod yX11_counts ∈ WT := wt_5 112 rfl rfl
set_option maxRecDepth 20000 in
theorem tw_1074 : Cond.code yX11_counts cX11_counts 4 (Option.some Jvm.ClassFile.FieldType.boolean) ∈ WT := wt_5 113 rfl rfl
set_option maxRecDepth 20000 in
theorem tw_1075 : Cond.methodLink RX11 128 yX11_brings ∈ WT := wt_5 114 rfl rfl
set_option maxRecDepth 20000 in
theorem tw_1076 : Cond.static yX11_brings ∈ WT := wt_5 115 rfl rfl
set_option maxRecDepth 20000 in
theorem tw_1077 : Cond.code yX11_brings cX11_brings 6 (Option.some Jvm.ClassFile.FieldType.int) ∈ WT := wt_5 116 rfl rfl
set_option maxRecDepth 20000 in
theorem tw_1078 : Cond.methodLink RL 60 yX11_reason ∈ WT := wt_5 117 rfl rfl
set_option maxRecDepth 20000 in
theorem tw_1079 : Cond.instanceMethod yX11_reason ∈ WT := wt_5 118 rfl rfl
set_option maxRecDepth 20000 in
theorem tw_1080 : Cond.selects RX11 yX11_reason yX11_reason ∈ WT := wt_5 119 rfl rfl
set_option maxRecDepth 20000 in
theorem tw_1081 : Cond.code yX11_reason cX11_reason 5 (Option.some Jvm.ClassFile.FieldType.int) ∈ WT := wt_5 120 rfl rfl
set_option maxRecDepth 20000 in
theorem tw_1082 : Cond.methodLink RL 65 yX11_why ∈ WT := wt_5 121 rfl rfl
set_option maxRecDepth 20000 in
theorem tw_1083 : Cond.instanceMethod yX11_why ∈ WT := wt_5 122 rfl rfl
set_option maxRecDepth 20000 in
theorem tw_1084 : Cond.selects RX11 yX11_why yX11_why ∈ WT := wt_5 123 rfl rfl
set_option maxRecDepth 20000 in
theorem tw_1085 : Cond.code yX11_why cX11_why 5 (Option.some Jvm.ClassFile.FieldType.int) ∈ WT := wt_5 124 rfl rfl
set_option maxRecDepth 20000 in
theorem tw_1086 : Cond.methodLink RX11 145 yX11_halting ∈ WT := wt_5 125 rfl rfl
set_option maxRecDepth 20000 in
theorem tw_1088 : Cond.instanceMethod yX11_halting ∈ WT := wt_5 127 rfl rfl
set_option maxRecDepth 20000 in
theorem tw_1089 : Cond.code yX11_halting cX11_halting 3 (Option.some Jvm.ClassFile.FieldType.int) ∈ WT := wt_5 128 rfl rfl
set_option maxRecDepth 20000 in
theorem tw_1090 : Cond.methodLink RL 69 yX11_hold ∈ WT := wt_5 129 rfl rfl
set_option maxRecDepth 20000 in
theorem tw_1091 : Cond.instanceMethod yX11_hold ∈ WT := wt_5 130 rfl rfl
set_option maxRecDepth 20000 in
theorem tw_1092 : Cond.selects RX11 yX11_hold yX11_hold ∈ WT := wt_5 131 rfl rfl
set_option maxRecDepth 20000 in
theorem tw_1093 : Cond.code yX11_hold cX11_hold 4 (Option.some Jvm.ClassFile.FieldType.int) ∈ WT := wt_5 132 rfl rfl
set_option maxRecDepth 20000 in
theorem tw_1094 : Cond.methodLink RL 73 yX11_best ∈ WT := wt_5 133 rfl rfl
set_option maxRecDepth 20000 in
theorem tw_1095 : Cond.instanceMethod yX11_best ∈ WT := wt_5 134 rfl rfl
set_option maxRecDepth 20000 in
theorem tw_1096 : Cond.selects RX11 yX11_best yX11_best ∈ WT := wt_5 135 rfl rfl
set_option maxRecDepth 20000 in
theorem tw_1097 : Cond.code yX11_best cX11_best 9 (Option.some Jvm.ClassFile.FieldType.int) ∈ WT := wt_5 136 rfl rfl
set_option maxRecDepth 20000 in
theorem tw_1098 : Cond.methodLink RX11 148 yX11_isAlong ∈ WT := wt_5 137 rfl rfl
set_option maxRecDepth 20000 in
theorem tw_1099 : Cond.static yX11_isAlong ∈ WT := wt_5 138 rfl rfl
set_option maxRecDepth 20000 in
theorem tw_1100 : Cond.code yX11_isAlong cX11_isAlong 3 (Option.some Jvm.ClassFile.FieldType.boolean) ∈ WT := wt_5 139 rfl rfl
set_option maxRecDepth 20000 in
theorem tw_1101 : Cond.methodLink RX11 151 yX11_with ∈ WT := wt_5 140 rfl rfl
set_option maxRecDepth 20000 in
theorem tw_1102 : Cond.static yX11_with ∈ WT := wt_5 141 rfl rfl
set_option maxRecDepth 20000 in
theorem tw_1103 : Cond.code yX11_with cX11_with 3 (Option.some Jvm.ClassFile.FieldType.int) ∈ WT := wt_5 142 rfl rfl
set_option maxRecDepth 20000 in
theorem tw_1104 : Cond.methodLink RL 77 yX11_jumps ∈ WT := wt_5 143 rfl rfl
set_option maxRecDepth 20000 in
theorem tw_1105 : Cond.instanceMethod yX11_jumps ∈ WT := wt_5 144 rfl rfl
set_option maxRecDepth 20000 in
theorem tw_1106 : Cond.selects RX11 yX11_jumps yX11_jumps ∈ WT := wt_5 145 rfl rfl
set_option maxRecDepth 20000 in
theorem tw_1107 : Cond.code yX11_jumps cX11_jumps 12 (Option.some Jvm.ClassFile.FieldType.int) ∈ WT := wt_5 146 rfl rfl
set_option maxRecDepth 20000 in
theorem tw_1108 : Cond.methodLink RL 81 yX11_bends ∈ WT := wt_5 147 rfl rfl
set_option maxRecDepth 20000 in
theorem tw_1109 : Cond.instanceMethod yX11_bends ∈ WT := wt_5 148 rfl rfl
set_option maxRecDepth 20000 in
theorem tw_1110 : Cond.selects RX11 yX11_bends yX11_bends ∈ WT := wt_5 149 rfl rfl
set_option maxRecDepth 20000 in
theorem tw_1111 : Cond.code yX11_bends cX11_bends 13 (Option.some Jvm.ClassFile.FieldType.int) ∈ WT := wt_5 150 rfl rfl
set_option maxRecDepth 20000 in
theorem tw_1112 : Cond.methodLink RL 85 yX11_enough ∈ WT := wt_5 151 rfl rfl
set_option maxRecDepth 20000 in
theorem tw_1113 : Cond.instanceMethod yX11_enough ∈ WT := wt_5 152 rfl rfl
set_option maxRecDepth 20000 in
theorem tw_1114 : Cond.selects RX11 yX11_enough yX11_enough ∈ WT := wt_5 153 rfl rfl
set_option maxRecDepth 20000 in
theorem tw_1115 : Cond.code yX11_enough cX11_enough 6 (Option.some Jvm.ClassFile.FieldType.int) ∈ WT := wt_5 154 rfl rfl
set_option maxRecDepth 20000 in
theorem tw_1116 : Cond.methodLink RL 90 yX11_share ∈ WT := wt_5 155 rfl rfl
set_option maxRecDepth 20000 in
theorem tw_1117 : Cond.instanceMethod yX11_share ∈ WT := wt_5 156 rfl rfl
set_option maxRecDepth 20000 in
theorem tw_1118 : Cond.selects RX11 yX11_share yX11_share ∈ WT := wt_5 157 rfl rfl
set_option maxRecDepth 20000 in
theorem tw_1119 : Cond.code yX11_share cX11_share 4 (Option.some Jvm.ClassFile.FieldType.long) ∈ WT := wt_5 158 rfl rfl
set_option maxRecDepth 20000 in
theorem tw_1120 : Cond.constantLong RX11 155 (-4611686018427387906) ∈ WT := wt_5 159 rfl rfl
set_option maxRecDepth 20000 in
theorem tw_1121 : Cond.methodLink RX11 157 yJxe99ae_doubleToLongBits_ccdee ∈ WT := wt_5 160 rfl rfl
set_option maxRecDepth 20000 in
theorem tw_1122 : Cond.static yJxe99ae_doubleToLongBits_ccdee ∈ WT := wt_5 161 rfl rfl
set_option maxRecDepth 20000 in
theorem tw_1123 : Cond.code yJxe99ae_doubleToLongBits_ccdee cJxe99ae_doubleToLongBits_ccdee 2 (Option.some Jvm.ClassFile.FieldType.long) ∈ WT := wt_5 162 rfl rfl
set_option maxRecDepth 20000 in
theorem tw_1124 : Cond.methodLink RJxe99ae 122 yJxe99ae_isNaN_b9ae7 ∈ WT := wt_5 163 rfl rfl
set_option maxRecDepth 20000 in
theorem tw_1125 : Cond.static yJxe99ae_isNaN_b9ae7 ∈ WT := wt_5 164 rfl rfl
set_option maxRecDepth 20000 in
theorem tw_1126 : Cond.code yJxe99ae_isNaN_b9ae7 cJxe99ae_isNaN_b9ae7 2 (Option.some Jvm.ClassFile.FieldType.boolean) ∈ WT := wt_5 165 rfl rfl
set_option maxRecDepth 20000 in
theorem tw_1127 : Cond.methodLink RJxe99ae 134 ⟨"java/lang/Double", "doubleToRawLongBits", "(D)J"⟩ ∈ WT := wt_5 166 rfl rfl
set_option maxRecDepth 20000 in
theorem tw_1128 : Cond.static ⟨"java/lang/Double", "doubleToRawLongBits", "(D)J"⟩ ∈ WT := wt_5 167 rfl rfl
set_option maxRecDepth 20000 in
theorem tw_1129 : Cond.native ⟨"java/lang/Double", "doubleToRawLongBits", "(D)J"⟩ ∈ WT := wt_5 168 rfl rfl
set_option maxRecDepth 20000 in
theorem tw_1130 : Cond.constantLong RJxe99ae 137 (9221120237041090560) ∈ WT := wt_5 169 rfl rfl
set_option maxRecDepth 20000 in
theorem tw_1131 : Cond.methodLink RL 94 yX11_mean ∈ WT := wt_5 170 rfl rfl
set_option maxRecDepth 20000 in
theorem tw_1132 : Cond.instanceMethod yX11_mean ∈ WT := wt_5 171 rfl rfl
