/-! by program: wip/whole/genl.py: cases of the law's switch -/
theorem dL_law_1863 : decode code 1863 = .ok (.aload_n 1, 1) := by decide +kernel
theorem dL_law_1864 : decode code 1864 = .ok (.aload_n 3, 1) := by decide +kernel
theorem dL_law_1865 : decode code 1865 = .ok (.invokestatic 236, 3) := by decide +kernel
theorem dL_law_1868 : decode code 1868 = .ok (.istore 5, 2) := by decide +kernel
theorem dL_law_1870 : decode code 1870 = .ok (.aload_n 2, 1) := by decide +kernel
theorem dL_law_1871 : decode code 1871 = .ok (.invokevirtual 238, 3) := by decide +kernel
theorem dL_law_1874 : decode code 1874 = .ok (.istore 6, 2) := by decide +kernel
theorem dL_law_1876 : decode code 1876 = .ok (.aload_n 2, 1) := by decide +kernel
theorem dL_law_1877 : decode code 1877 = .ok (.invokevirtual 131, 3) := by decide +kernel
theorem dL_law_1880 : decode code 1880 = .ok (.iload 5, 2) := by decide +kernel
theorem dL_law_1882 : decode code 1882 = .ok (.if_icmp .eq 5, 3) := by decide +kernel
theorem dL_law_1887 : decode code 1887 = .ok (.iload 5, 2) := by decide +kernel
theorem dL_law_1889 : decode code 1889 = .ok (.ifCond .ne 15, 3) := by decide +kernel
theorem dL_law_1892 : decode code 1892 = .ok (.aload_n 3, 1) := by decide +kernel
theorem dL_law_1893 : decode code 1893 = .ok (.iconst 0, 1) := by decide +kernel
theorem dL_law_1894 : decode code 1894 = .ok (.laload, 1) := by decide +kernel
theorem dL_law_1895 : decode code 1895 = .ok (.iload 6, 2) := by decide +kernel
theorem dL_law_1897 : decode code 1897 = .ok (.i2l, 1) := by decide +kernel
theorem dL_law_1898 : decode code 1898 = .ok (.lcmp, 1) := by decide +kernel
theorem dL_law_1899 : decode code 1899 = .ok (.ifCond .eq 5, 3) := by decide +kernel
theorem dL_law_1904 : decode code 1904 = .ok (.goto 674, 3) := by decide +kernel
theorem dL_law_1907 : decode code 1907 = .ok (.aload_n 1, 1) := by decide +kernel
theorem dL_law_1908 : decode code 1908 = .ok (.aload_n 0, 1) := by decide +kernel
theorem dL_law_1909 : decode code 1909 = .ok (.iload 4, 2) := by decide +kernel
theorem dL_law_1911 : decode code 1911 = .ok (.iconst 1, 1) := by decide +kernel
theorem dL_law_1912 : decode code 1912 = .ok (.iadd, 1) := by decide +kernel
theorem dL_law_1913 : decode code 1913 = .ok (.iaload, 1) := by decide +kernel
theorem dL_law_1914 : decode code 1914 = .ok (.aload_n 3, 1) := by decide +kernel
theorem dL_law_1915 : decode code 1915 = .ok (.invokestatic 239, 3) := by decide +kernel
theorem dL_law_1918 : decode code 1918 = .ok (.istore 5, 2) := by decide +kernel
theorem dL_law_1920 : decode code 1920 = .ok (.aload_n 2, 1) := by decide +kernel
theorem dL_law_1921 : decode code 1921 = .ok (.aload_n 0, 1) := by decide +kernel
theorem dL_law_1922 : decode code 1922 = .ok (.iload 4, 2) := by decide +kernel
theorem dL_law_1924 : decode code 1924 = .ok (.iconst 1, 1) := by decide +kernel
theorem dL_law_1925 : decode code 1925 = .ok (.iadd, 1) := by decide +kernel
theorem dL_law_1926 : decode code 1926 = .ok (.iaload, 1) := by decide +kernel
theorem dL_law_1927 : decode code 1927 = .ok (.invokevirtual 241, 3) := by decide +kernel
theorem dL_law_1930 : decode code 1930 = .ok (.istore 6, 2) := by decide +kernel
theorem dL_law_1932 : decode code 1932 = .ok (.aload_n 2, 1) := by decide +kernel
theorem dL_law_1933 : decode code 1933 = .ok (.invokevirtual 131, 3) := by decide +kernel
theorem dL_law_1936 : decode code 1936 = .ok (.iload 5, 2) := by decide +kernel
theorem dL_law_1938 : decode code 1938 = .ok (.if_icmp .eq 5, 3) := by decide +kernel
theorem dL_law_1943 : decode code 1943 = .ok (.iload 5, 2) := by decide +kernel
theorem dL_law_1945 : decode code 1945 = .ok (.ifCond .ne 15, 3) := by decide +kernel
theorem dL_law_1948 : decode code 1948 = .ok (.aload_n 3, 1) := by decide +kernel
theorem dL_law_1949 : decode code 1949 = .ok (.iconst 0, 1) := by decide +kernel
theorem dL_law_1950 : decode code 1950 = .ok (.laload, 1) := by decide +kernel
theorem dL_law_1951 : decode code 1951 = .ok (.iload 6, 2) := by decide +kernel
theorem dL_law_1953 : decode code 1953 = .ok (.i2l, 1) := by decide +kernel
theorem dL_law_1954 : decode code 1954 = .ok (.lcmp, 1) := by decide +kernel
theorem dL_law_1955 : decode code 1955 = .ok (.ifCond .eq 5, 3) := by decide +kernel
theorem dL_law_1960 : decode code 1960 = .ok (.goto 618, 3) := by decide +kernel
theorem dL_law_1963 : decode code 1963 = .ok (.aload_n 1, 1) := by decide +kernel
theorem dL_law_1964 : decode code 1964 = .ok (.aload_n 0, 1) := by decide +kernel
theorem dL_law_1965 : decode code 1965 = .ok (.iload 4, 2) := by decide +kernel
theorem dL_law_1967 : decode code 1967 = .ok (.iconst 1, 1) := by decide +kernel
theorem dL_law_1968 : decode code 1968 = .ok (.iadd, 1) := by decide +kernel
theorem dL_law_1969 : decode code 1969 = .ok (.iaload, 1) := by decide +kernel
theorem dL_law_1970 : decode code 1970 = .ok (.aload_n 3, 1) := by decide +kernel
theorem dL_law_1971 : decode code 1971 = .ok (.invokestatic 242, 3) := by decide +kernel
theorem dL_law_1974 : decode code 1974 = .ok (.istore 5, 2) := by decide +kernel
theorem dL_law_1976 : decode code 1976 = .ok (.aload_n 2, 1) := by decide +kernel
theorem dL_law_1977 : decode code 1977 = .ok (.aload_n 0, 1) := by decide +kernel
theorem dL_law_1978 : decode code 1978 = .ok (.iload 4, 2) := by decide +kernel
theorem dL_law_1980 : decode code 1980 = .ok (.iconst 1, 1) := by decide +kernel
theorem dL_law_1981 : decode code 1981 = .ok (.iadd, 1) := by decide +kernel
theorem dL_law_1982 : decode code 1982 = .ok (.iaload, 1) := by decide +kernel
theorem dL_law_1983 : decode code 1983 = .ok (.invokevirtual 244, 3) := by decide +kernel
theorem dL_law_1986 : decode code 1986 = .ok (.istore 6, 2) := by decide +kernel
theorem dL_law_1988 : decode code 1988 = .ok (.aload_n 2, 1) := by decide +kernel
theorem dL_law_1989 : decode code 1989 = .ok (.invokevirtual 131, 3) := by decide +kernel
theorem dL_law_1992 : decode code 1992 = .ok (.iload 5, 2) := by decide +kernel
theorem dL_law_1994 : decode code 1994 = .ok (.if_icmp .eq 5, 3) := by decide +kernel
theorem dL_law_1999 : decode code 1999 = .ok (.iload 5, 2) := by decide +kernel
theorem dL_law_2001 : decode code 2001 = .ok (.ifCond .ne 15, 3) := by decide +kernel
theorem dL_law_2004 : decode code 2004 = .ok (.aload_n 3, 1) := by decide +kernel
theorem dL_law_2005 : decode code 2005 = .ok (.iconst 0, 1) := by decide +kernel
theorem dL_law_2006 : decode code 2006 = .ok (.laload, 1) := by decide +kernel
theorem dL_law_2007 : decode code 2007 = .ok (.iload 6, 2) := by decide +kernel
theorem dL_law_2009 : decode code 2009 = .ok (.i2l, 1) := by decide +kernel
theorem dL_law_2010 : decode code 2010 = .ok (.lcmp, 1) := by decide +kernel
theorem dL_law_2011 : decode code 2011 = .ok (.ifCond .eq 5, 3) := by decide +kernel
theorem dL_law_2016 : decode code 2016 = .ok (.goto 562, 3) := by decide +kernel
theorem dL_law_2019 : decode code 2019 = .ok (.aload_n 1, 1) := by decide +kernel
theorem dL_law_2020 : decode code 2020 = .ok (.aload_n 0, 1) := by decide +kernel
theorem dL_law_2021 : decode code 2021 = .ok (.iload 4, 2) := by decide +kernel
theorem dL_law_2023 : decode code 2023 = .ok (.iconst 1, 1) := by decide +kernel
theorem dL_law_2024 : decode code 2024 = .ok (.iadd, 1) := by decide +kernel
theorem dL_law_2025 : decode code 2025 = .ok (.iaload, 1) := by decide +kernel
theorem dL_law_2026 : decode code 2026 = .ok (.aload_n 0, 1) := by decide +kernel
theorem dL_law_2027 : decode code 2027 = .ok (.iload 4, 2) := by decide +kernel
theorem dL_law_2029 : decode code 2029 = .ok (.iconst 2, 1) := by decide +kernel
theorem dL_law_2030 : decode code 2030 = .ok (.iadd, 1) := by decide +kernel
theorem dL_law_2031 : decode code 2031 = .ok (.iaload, 1) := by decide +kernel
theorem dL_law_2032 : decode code 2032 = .ok (.aload_n 3, 1) := by decide +kernel
theorem dL_law_2033 : decode code 2033 = .ok (.invokestatic 245, 3) := by decide +kernel
theorem dL_law_2036 : decode code 2036 = .ok (.istore 5, 2) := by decide +kernel
theorem dL_law_2038 : decode code 2038 = .ok (.aload_n 2, 1) := by decide +kernel
theorem dL_law_2039 : decode code 2039 = .ok (.aload_n 0, 1) := by decide +kernel
theorem dL_law_2040 : decode code 2040 = .ok (.iload 4, 2) := by decide +kernel
theorem dL_law_2042 : decode code 2042 = .ok (.iconst 1, 1) := by decide +kernel
theorem dL_law_2043 : decode code 2043 = .ok (.iadd, 1) := by decide +kernel
theorem dL_law_2044 : decode code 2044 = .ok (.iaload, 1) := by decide +kernel
theorem dL_law_2045 : decode code 2045 = .ok (.aload_n 0, 1) := by decide +kernel
theorem dL_law_2046 : decode code 2046 = .ok (.iload 4, 2) := by decide +kernel
theorem dL_law_2048 : decode code 2048 = .ok (.iconst 2, 1) := by decide +kernel
theorem dL_law_2049 : decode code 2049 = .ok (.iadd, 1) := by decide +kernel
theorem dL_law_2050 : decode code 2050 = .ok (.iaload, 1) := by decide +kernel
theorem dL_law_2051 : decode code 2051 = .ok (.invokevirtual 247, 3) := by decide +kernel
theorem dL_law_2054 : decode code 2054 = .ok (.istore 6, 2) := by decide +kernel
theorem dL_law_2056 : decode code 2056 = .ok (.aload_n 2, 1) := by decide +kernel
theorem dL_law_2057 : decode code 2057 = .ok (.invokevirtual 131, 3) := by decide +kernel
theorem dL_law_2060 : decode code 2060 = .ok (.iload 5, 2) := by decide +kernel
theorem dL_law_2062 : decode code 2062 = .ok (.if_icmp .eq 5, 3) := by decide +kernel
theorem dL_law_2067 : decode code 2067 = .ok (.iload 5, 2) := by decide +kernel
theorem dL_law_2069 : decode code 2069 = .ok (.ifCond .ne 15, 3) := by decide +kernel
theorem dL_law_2072 : decode code 2072 = .ok (.aload_n 3, 1) := by decide +kernel
theorem dL_law_2073 : decode code 2073 = .ok (.iconst 0, 1) := by decide +kernel
theorem dL_law_2074 : decode code 2074 = .ok (.laload, 1) := by decide +kernel
theorem dL_law_2075 : decode code 2075 = .ok (.iload 6, 2) := by decide +kernel
theorem dL_law_2077 : decode code 2077 = .ok (.i2l, 1) := by decide +kernel
theorem dL_law_2078 : decode code 2078 = .ok (.lcmp, 1) := by decide +kernel
theorem dL_law_2079 : decode code 2079 = .ok (.ifCond .eq 5, 3) := by decide +kernel
theorem dL_law_2084 : decode code 2084 = .ok (.goto 494, 3) := by decide +kernel
theorem dL_law_2087 : decode code 2087 = .ok (.aload_n 1, 1) := by decide +kernel
theorem dL_law_2088 : decode code 2088 = .ok (.aload_n 0, 1) := by decide +kernel
theorem dL_law_2089 : decode code 2089 = .ok (.iload 4, 2) := by decide +kernel
theorem dL_law_2091 : decode code 2091 = .ok (.iconst 1, 1) := by decide +kernel
theorem dL_law_2092 : decode code 2092 = .ok (.iadd, 1) := by decide +kernel
theorem dL_law_2093 : decode code 2093 = .ok (.iaload, 1) := by decide +kernel
theorem dL_law_2094 : decode code 2094 = .ok (.aload_n 3, 1) := by decide +kernel
theorem dL_law_2095 : decode code 2095 = .ok (.invokestatic 248, 3) := by decide +kernel
theorem dL_law_2098 : decode code 2098 = .ok (.istore 5, 2) := by decide +kernel
theorem dL_law_2100 : decode code 2100 = .ok (.aload_n 2, 1) := by decide +kernel
theorem dL_law_2101 : decode code 2101 = .ok (.aload_n 0, 1) := by decide +kernel
theorem dL_law_2102 : decode code 2102 = .ok (.iload 4, 2) := by decide +kernel
theorem dL_law_2104 : decode code 2104 = .ok (.iconst 1, 1) := by decide +kernel
theorem dL_law_2105 : decode code 2105 = .ok (.iadd, 1) := by decide +kernel
theorem dL_law_2106 : decode code 2106 = .ok (.iaload, 1) := by decide +kernel
theorem dL_law_2107 : decode code 2107 = .ok (.invokevirtual 250, 3) := by decide +kernel
theorem dL_law_2110 : decode code 2110 = .ok (.istore 6, 2) := by decide +kernel
theorem dL_law_2112 : decode code 2112 = .ok (.aload_n 2, 1) := by decide +kernel
theorem dL_law_2113 : decode code 2113 = .ok (.invokevirtual 131, 3) := by decide +kernel
theorem dL_law_2116 : decode code 2116 = .ok (.iload 5, 2) := by decide +kernel
theorem dL_law_2118 : decode code 2118 = .ok (.if_icmp .eq 5, 3) := by decide +kernel
theorem dL_law_2123 : decode code 2123 = .ok (.iload 5, 2) := by decide +kernel
theorem dL_law_2125 : decode code 2125 = .ok (.ifCond .ne 15, 3) := by decide +kernel
theorem dL_law_2128 : decode code 2128 = .ok (.aload_n 3, 1) := by decide +kernel
theorem dL_law_2129 : decode code 2129 = .ok (.iconst 0, 1) := by decide +kernel
theorem dL_law_2130 : decode code 2130 = .ok (.laload, 1) := by decide +kernel
theorem dL_law_2131 : decode code 2131 = .ok (.iload 6, 2) := by decide +kernel
theorem dL_law_2133 : decode code 2133 = .ok (.i2l, 1) := by decide +kernel
theorem dL_law_2134 : decode code 2134 = .ok (.lcmp, 1) := by decide +kernel
theorem dL_law_2135 : decode code 2135 = .ok (.ifCond .eq 5, 3) := by decide +kernel
theorem dL_law_2140 : decode code 2140 = .ok (.goto 438, 3) := by decide +kernel
theorem dL_law_2143 : decode code 2143 = .ok (.aload_n 1, 1) := by decide +kernel
theorem dL_law_2144 : decode code 2144 = .ok (.aload_n 0, 1) := by decide +kernel
theorem dL_law_2145 : decode code 2145 = .ok (.iload 4, 2) := by decide +kernel
theorem dL_law_2147 : decode code 2147 = .ok (.iconst 1, 1) := by decide +kernel
theorem dL_law_2148 : decode code 2148 = .ok (.iadd, 1) := by decide +kernel
theorem dL_law_2149 : decode code 2149 = .ok (.iaload, 1) := by decide +kernel
theorem dL_law_2150 : decode code 2150 = .ok (.aload_n 0, 1) := by decide +kernel
theorem dL_law_2151 : decode code 2151 = .ok (.iload 4, 2) := by decide +kernel
theorem dL_law_2153 : decode code 2153 = .ok (.iconst 2, 1) := by decide +kernel
theorem dL_law_2154 : decode code 2154 = .ok (.iadd, 1) := by decide +kernel
theorem dL_law_2155 : decode code 2155 = .ok (.iaload, 1) := by decide +kernel
theorem dL_law_2156 : decode code 2156 = .ok (.aload_n 3, 1) := by decide +kernel
theorem dL_law_2157 : decode code 2157 = .ok (.invokestatic 251, 3) := by decide +kernel
theorem dL_law_2160 : decode code 2160 = .ok (.istore 5, 2) := by decide +kernel
theorem dL_law_2162 : decode code 2162 = .ok (.aload_n 2, 1) := by decide +kernel
theorem dL_law_2163 : decode code 2163 = .ok (.aload_n 0, 1) := by decide +kernel
theorem dL_law_2164 : decode code 2164 = .ok (.iload 4, 2) := by decide +kernel
theorem dL_law_2166 : decode code 2166 = .ok (.iconst 1, 1) := by decide +kernel
theorem dL_law_2167 : decode code 2167 = .ok (.iadd, 1) := by decide +kernel
theorem dL_law_2168 : decode code 2168 = .ok (.iaload, 1) := by decide +kernel
theorem dL_law_2169 : decode code 2169 = .ok (.aload_n 0, 1) := by decide +kernel
theorem dL_law_2170 : decode code 2170 = .ok (.iload 4, 2) := by decide +kernel
theorem dL_law_2172 : decode code 2172 = .ok (.iconst 2, 1) := by decide +kernel
theorem dL_law_2173 : decode code 2173 = .ok (.iadd, 1) := by decide +kernel
theorem dL_law_2174 : decode code 2174 = .ok (.iaload, 1) := by decide +kernel
theorem dL_law_2175 : decode code 2175 = .ok (.invokevirtual 253, 3) := by decide +kernel
theorem dL_law_2178 : decode code 2178 = .ok (.istore 6, 2) := by decide +kernel
theorem dL_law_2180 : decode code 2180 = .ok (.aload_n 2, 1) := by decide +kernel
theorem dL_law_2181 : decode code 2181 = .ok (.invokevirtual 131, 3) := by decide +kernel
theorem dL_law_2184 : decode code 2184 = .ok (.iload 5, 2) := by decide +kernel
theorem dL_law_2186 : decode code 2186 = .ok (.if_icmp .eq 5, 3) := by decide +kernel
theorem dL_law_2191 : decode code 2191 = .ok (.iload 5, 2) := by decide +kernel
theorem dL_law_2193 : decode code 2193 = .ok (.ifCond .ne 15, 3) := by decide +kernel
theorem dL_law_2196 : decode code 2196 = .ok (.aload_n 3, 1) := by decide +kernel
theorem dL_law_2197 : decode code 2197 = .ok (.iconst 0, 1) := by decide +kernel
theorem dL_law_2198 : decode code 2198 = .ok (.laload, 1) := by decide +kernel
theorem dL_law_2199 : decode code 2199 = .ok (.iload 6, 2) := by decide +kernel
theorem dL_law_2201 : decode code 2201 = .ok (.i2l, 1) := by decide +kernel
theorem dL_law_2202 : decode code 2202 = .ok (.lcmp, 1) := by decide +kernel
theorem dL_law_2203 : decode code 2203 = .ok (.ifCond .eq 5, 3) := by decide +kernel
theorem dL_law_2208 : decode code 2208 = .ok (.goto 370, 3) := by decide +kernel
set_option maxRecDepth 100000 in
set_option maxHeartbeats 8000000 in
theorem case_30 {p : Program} {l : Launch} {e : Env} {s : State} {m : MethodId} {below : List Frame} {meth : Method} {c : Code} {Q : State → Prop} {D : va_G} {cys : Nat → ClassId} {ad : Nat → Int → Nat} {b Ls : Nat} {xs : Nat → Int32} (hi : injA ad) (hst : l.stackTraces = false) (G : GG p l s m #[Value.ref b] meth c D cys ad (fun q => s.heap.size ≤ q) code RL 9) (hN : NCS s) (hk4 : HK4 cys s) (hX : va_X b Ls xs s s.heap) (hbl : b < s.heap.size) (hL : Ls ≤ 2560) {L : List Nat} {g : Nat → va_E} {X : Int64} {Z : ZT} {ao : Nat} (hI : INV cys ad ao L g Z) {i : Int} (hi0 : 0 ≤ i) (hi5 : i + 5 ≤ Ls) {cells slots : Nat} (hc : cells + 200 ≤ 601024) (hs : slots + 3000 ≤ 7293034)
    (K : ∀ (L1 : List Nat) (g1 : Nat → va_E) (X1 : Int64) (Z1 : ZT), INV cys ad ao L1 g1 Z1 → JJ p l e room_1 s m #[Value.ref b] below meth c D cys ad (fun q => s.heap.size ≤ q) Q 9 (cells + 200) (slots + 3000) L1 g1 X1 Z1 2578 (LV5 b ad ao i) []) :
    JJ p l e room_1 s m #[Value.ref b] below meth c D cys ad (fun q => s.heap.size ≤ q) Q 9 cells slots L g X Z 1863 (LV5 b ad ao i) [] := by
  obtain ⟨hG, hRL, ⟨hao, hns, h33⟩, v0, hgo⟩ := hI
  have hW := hG.1.1
  have hbA : ¬ (fun q => s.heap.size ≤ q) b := Nat.not_le.mpr hbl
  refine j_aload_n G dL_law_1863 rfl ?_
  refine j_aload_n G dL_law_1864 rfl ?_
  refine j_callW (n := 2) G hN (TW_of 860 (by decide +kernel) (by decide +kernel)) (TW_of 71 (by decide +kernel) (by decide +kernel)) (TW_of 861 (by decide +kernel) (by decide +kernel)) ⟨by decide +kernel, by decide +kernel, by decide +kernel⟩ (TW_of 859 (by decide +kernel) (by decide +kernel)) (cw_columns hi hst (SP.rf Z) hW hao hns hgo) dL_law_1865 ⟨by decide, by decide⟩ ⟨by rw [r1c]; omega, by rw [r1s]; omega⟩ rfl rfl (Nat.le_of_ble_eq_true rfl) (fun k L1 g1 X1 Z1 h => ?_)
  obtain ⟨eL, eX, v9, eg, hA⟩ := h
  subst L1 X1 g1
  have hR1 : RMZ Z Z1 := hG.2.hi (hi_columns hA)
  have hRL1 := hRL.out h33 hgo v9
  have hgo1 : va_up g ao (OUT cys v9) ao = OUT cys v9 := va_up_self _ _ _
  refine j_istore G dL_law_1868 (by decide) rfl ?_
  refine j_aload_n G dL_law_1870 rfl ?_
  refine j_cVGI G cvX7_columns mlL_238 (c_X7_columns hi hR1 hRL1 hW) dL_law_1871 ⟨by decide, by decide⟩ ⟨by rw [r1c]; omega, by rw [r1s]; omega⟩ rfl rfl (Nat.le_of_ble_eq_true rfl) (by decide) rfl rfl rfl (fun x L2 g2 X2 Z2 h2 => ?_)
  obtain ⟨hB0, hE, eX⟩ := h2
  subst X2
  have hao2 : ao ∈ L2 := hE.1 _ hao
  have hgo2 : g2 ao = OUT cys v9 := (hE.2 _ hao).trans hgo1
  have hag := ag_columns hG hA hB0
  have hRL2 := hag.2.1 cys ad _ _ (hRL1.ext hE)
  refine j_istore G dL_law_1874 (by decide) rfl ?_
  refine j_aload_n G dL_law_1876 rfl ?_
  refine j_cVI G cvX7_thrown mlL_131 (c_X7_thrown hi) dL_law_1877 ⟨by decide, by decide⟩ ⟨by rw [r1c]; omega, by rw [r1s]; omega⟩ rfl rfl (Nat.le_of_ble_eq_true rfl) (by decide) rfl rfl rfl (fun t ht => ?_)
  refine j_iload G dL_law_1880 rfl ?_
  refine j_icmpS G 1887 dL_law_1882 (by decide) (ht.trans hag.2.2.1) ?_
  refine j_iload G dL_law_1887 rfl ?_
  have hk02 := hag.2.2.2.2
  refine j_if_ne G 1904 dL_law_1889 (by decide) (by omega) (fun c0 => ?_) (fun c0 => ?_)
  · refine j_goto G 2578 dL_law_1904 (by decide) ?_
    refine j_keep [0, 1, 2, 3, 4] ?_
    refine j_wid (cells' := cells + 200) (slots' := slots + 3000) (by omega) (by omega) ?_
    exact K _ _ _ _ ⟨hag.1, hRL2, ⟨hao2, hns, h33⟩, v9, hgo2⟩
  · refine j_aload_n G dL_law_1892 rfl ?_
    refine j_iconst G dL_law_1893 ?_
    refine j_laldO G dL_law_1894 hao2 hns hgo2 ?_
    refine j_iload G dL_law_1895 rfl ?_
    refine j_i2l G dL_law_1897 ?_
    refine j_lcmpS G dL_law_1898 (hag.2.2.2.1 c0) ?_
    refine j_if_eq G 1904 dL_law_1899 (by decide) (by decide) (fun _ => ?_) (fun h => absurd rfl h)
    refine j_goto G 2578 dL_law_1904 (by decide) ?_
    refine j_keep [0, 1, 2, 3, 4] ?_
    refine j_wid (cells' := cells + 200) (slots' := slots + 3000) (by omega) (by omega) ?_
    exact K _ _ _ _ ⟨hag.1, hRL2, ⟨hao2, hns, h33⟩, v9, hgo2⟩
set_option maxRecDepth 100000 in
set_option maxHeartbeats 8000000 in
theorem case_31 {p : Program} {l : Launch} {e : Env} {s : State} {m : MethodId} {below : List Frame} {meth : Method} {c : Code} {Q : State → Prop} {D : va_G} {cys : Nat → ClassId} {ad : Nat → Int → Nat} {b Ls : Nat} {xs : Nat → Int32} (hi : injA ad) (hst : l.stackTraces = false) (G : GG p l s m #[Value.ref b] meth c D cys ad (fun q => s.heap.size ≤ q) code RL 9) (hN : NCS s) (hk4 : HK4 cys s) (hX : va_X b Ls xs s s.heap) (hbl : b < s.heap.size) (hL : Ls ≤ 2560) {L : List Nat} {g : Nat → va_E} {X : Int64} {Z : ZT} {ao : Nat} (hI : INV cys ad ao L g Z) {i : Int} (hi0 : 0 ≤ i) (hi5 : i + 5 ≤ Ls) {cells slots : Nat} (hc : cells + 200 ≤ 601024) (hs : slots + 3000 ≤ 7293034)
    (K : ∀ (L1 : List Nat) (g1 : Nat → va_E) (X1 : Int64) (Z1 : ZT), INV cys ad ao L1 g1 Z1 → JJ p l e room_1 s m #[Value.ref b] below meth c D cys ad (fun q => s.heap.size ≤ q) Q 9 (cells + 200) (slots + 3000) L1 g1 X1 Z1 2578 (LV5 b ad ao i) []) :
    JJ p l e room_1 s m #[Value.ref b] below meth c D cys ad (fun q => s.heap.size ≤ q) Q 9 cells slots L g X Z 1907 (LV5 b ad ao i) [] := by
  obtain ⟨hG, hRL, ⟨hao, hns, h33⟩, v0, hgo⟩ := hI
  have hW := hG.1.1
  have hbA : ¬ (fun q => s.heap.size ≤ q) b := Nat.not_le.mpr hbl
  refine j_aload_n G dL_law_1907 rfl ?_
  refine j_aload_n G dL_law_1908 rfl ?_
  refine j_iload G dL_law_1909 rfl ?_
  refine j_iconst G dL_law_1911 ?_
  refine j_iadd G dL_law_1912 ?_
  refine j_sld G hX hbl hbA dL_law_1913 (by omega) (by omega) hL ?_
  refine j_aload_n G dL_law_1914 rfl ?_
  refine j_callW (n := 3) G hN (TW_of 867 (by decide +kernel) (by decide +kernel)) (TW_of 71 (by decide +kernel) (by decide +kernel)) (TW_of 868 (by decide +kernel) (by decide +kernel)) ⟨by decide +kernel, by decide +kernel, by decide +kernel⟩ (TW_of 866 (by decide +kernel) (by decide +kernel)) (cw_rowMember hi hst (SP.rf Z) hW (sv_in _ _) hao hns hgo) dL_law_1915 ⟨by decide, by decide⟩ ⟨by rw [r1c]; omega, by rw [r1s]; omega⟩ rfl rfl (Nat.le_of_ble_eq_true rfl) (fun k L1 g1 X1 Z1 h => ?_)
  obtain ⟨eL, eX, v9, eg, hA⟩ := h
  subst L1 X1 g1
  have hR1 : RMZ Z Z1 := hG.2.hi (hi_rowMember hA)
  have hRL1 := hRL.out h33 hgo v9
  have hgo1 : va_up g ao (OUT cys v9) ao = OUT cys v9 := va_up_self _ _ _
  refine j_istore G dL_law_1918 (by decide) rfl ?_
  refine j_aload_n G dL_law_1920 rfl ?_
  refine j_aload_n G dL_law_1921 rfl ?_
  refine j_iload G dL_law_1922 rfl ?_
  refine j_iconst G dL_law_1924 ?_
  refine j_iadd G dL_law_1925 ?_
  refine j_sld G hX hbl hbA dL_law_1926 (by omega) (by omega) hL ?_
  refine j_cVGI G cvX7_rowMember mlL_241 (c_X7_rowMember hi hR1 hRL1 hW (sv_in _ _)) dL_law_1927 ⟨by decide, by decide⟩ ⟨by rw [r1c]; omega, by rw [r1s]; omega⟩ rfl rfl (Nat.le_of_ble_eq_true rfl) (by decide) rfl rfl rfl (fun x L2 g2 X2 Z2 h2 => ?_)
  obtain ⟨hB0, hE, eX⟩ := h2
  subst X2
  have hao2 : ao ∈ L2 := hE.1 _ hao
  have hgo2 : g2 ao = OUT cys v9 := (hE.2 _ hao).trans hgo1
  have hag := ag_rowMember hG hA hB0
  have hRL2 := hag.2.1 cys ad _ _ (hRL1.ext hE)
  refine j_istore G dL_law_1930 (by decide) rfl ?_
  refine j_aload_n G dL_law_1932 rfl ?_
  refine j_cVI G cvX7_thrown mlL_131 (c_X7_thrown hi) dL_law_1933 ⟨by decide, by decide⟩ ⟨by rw [r1c]; omega, by rw [r1s]; omega⟩ rfl rfl (Nat.le_of_ble_eq_true rfl) (by decide) rfl rfl rfl (fun t ht => ?_)
  refine j_iload G dL_law_1936 rfl ?_
  refine j_icmpS G 1943 dL_law_1938 (by decide) (ht.trans hag.2.2.1) ?_
  refine j_iload G dL_law_1943 rfl ?_
  have hk02 := hag.2.2.2.2
  refine j_if_ne G 1960 dL_law_1945 (by decide) (by omega) (fun c0 => ?_) (fun c0 => ?_)
  · refine j_goto G 2578 dL_law_1960 (by decide) ?_
    refine j_keep [0, 1, 2, 3, 4] ?_
    refine j_wid (cells' := cells + 200) (slots' := slots + 3000) (by omega) (by omega) ?_
    exact K _ _ _ _ ⟨hag.1, hRL2, ⟨hao2, hns, h33⟩, v9, hgo2⟩
  · refine j_aload_n G dL_law_1948 rfl ?_
    refine j_iconst G dL_law_1949 ?_
    refine j_laldO G dL_law_1950 hao2 hns hgo2 ?_
    refine j_iload G dL_law_1951 rfl ?_
    refine j_i2l G dL_law_1953 ?_
    refine j_lcmpS G dL_law_1954 (hag.2.2.2.1 c0) ?_
    refine j_if_eq G 1960 dL_law_1955 (by decide) (by decide) (fun _ => ?_) (fun h => absurd rfl h)
    refine j_goto G 2578 dL_law_1960 (by decide) ?_
    refine j_keep [0, 1, 2, 3, 4] ?_
    refine j_wid (cells' := cells + 200) (slots' := slots + 3000) (by omega) (by omega) ?_
    exact K _ _ _ _ ⟨hag.1, hRL2, ⟨hao2, hns, h33⟩, v9, hgo2⟩
set_option maxRecDepth 100000 in
set_option maxHeartbeats 8000000 in
theorem case_32 {p : Program} {l : Launch} {e : Env} {s : State} {m : MethodId} {below : List Frame} {meth : Method} {c : Code} {Q : State → Prop} {D : va_G} {cys : Nat → ClassId} {ad : Nat → Int → Nat} {b Ls : Nat} {xs : Nat → Int32} (hi : injA ad) (hst : l.stackTraces = false) (G : GG p l s m #[Value.ref b] meth c D cys ad (fun q => s.heap.size ≤ q) code RL 9) (hN : NCS s) (hk4 : HK4 cys s) (hX : va_X b Ls xs s s.heap) (hbl : b < s.heap.size) (hL : Ls ≤ 2560) {L : List Nat} {g : Nat → va_E} {X : Int64} {Z : ZT} {ao : Nat} (hI : INV cys ad ao L g Z) {i : Int} (hi0 : 0 ≤ i) (hi5 : i + 5 ≤ Ls) {cells slots : Nat} (hc : cells + 200 ≤ 601024) (hs : slots + 3000 ≤ 7293034)
    (K : ∀ (L1 : List Nat) (g1 : Nat → va_E) (X1 : Int64) (Z1 : ZT), INV cys ad ao L1 g1 Z1 → JJ p l e room_1 s m #[Value.ref b] below meth c D cys ad (fun q => s.heap.size ≤ q) Q 9 (cells + 200) (slots + 3000) L1 g1 X1 Z1 2578 (LV5 b ad ao i) []) :
    JJ p l e room_1 s m #[Value.ref b] below meth c D cys ad (fun q => s.heap.size ≤ q) Q 9 cells slots L g X Z 1963 (LV5 b ad ao i) [] := by
  obtain ⟨hG, hRL, ⟨hao, hns, h33⟩, v0, hgo⟩ := hI
  have hW := hG.1.1
  have hbA : ¬ (fun q => s.heap.size ≤ q) b := Nat.not_le.mpr hbl
  refine j_aload_n G dL_law_1963 rfl ?_
  refine j_aload_n G dL_law_1964 rfl ?_
  refine j_iload G dL_law_1965 rfl ?_
  refine j_iconst G dL_law_1967 ?_
  refine j_iadd G dL_law_1968 ?_
  refine j_sld G hX hbl hbA dL_law_1969 (by omega) (by omega) hL ?_
  refine j_aload_n G dL_law_1970 rfl ?_
  refine j_callW (n := 3) G hN (TW_of 879 (by decide +kernel) (by decide +kernel)) (TW_of 71 (by decide +kernel) (by decide +kernel)) (TW_of 880 (by decide +kernel) (by decide +kernel)) ⟨by decide +kernel, by decide +kernel, by decide +kernel⟩ (TW_of 878 (by decide +kernel) (by decide +kernel)) (cw_columnMember hi hst (SP.rf Z) hW (sv_in _ _) hao hns hgo) dL_law_1971 ⟨by decide, by decide⟩ ⟨by rw [r1c]; omega, by rw [r1s]; omega⟩ rfl rfl (Nat.le_of_ble_eq_true rfl) (fun k L1 g1 X1 Z1 h => ?_)
  obtain ⟨eL, eX, v9, eg, hA⟩ := h
  subst L1 X1 g1
  have hR1 : RMZ Z Z1 := hG.2.hi (hi_columnMember hA)
  have hRL1 := hRL.out h33 hgo v9
  have hgo1 : va_up g ao (OUT cys v9) ao = OUT cys v9 := va_up_self _ _ _
  refine j_istore G dL_law_1974 (by decide) rfl ?_
  refine j_aload_n G dL_law_1976 rfl ?_
  refine j_aload_n G dL_law_1977 rfl ?_
  refine j_iload G dL_law_1978 rfl ?_
  refine j_iconst G dL_law_1980 ?_
  refine j_iadd G dL_law_1981 ?_
  refine j_sld G hX hbl hbA dL_law_1982 (by omega) (by omega) hL ?_
  refine j_cVGI G cvX7_columnMember mlL_244 (c_X7_columnMember hi hR1 hRL1 hW (sv_in _ _)) dL_law_1983 ⟨by decide, by decide⟩ ⟨by rw [r1c]; omega, by rw [r1s]; omega⟩ rfl rfl (Nat.le_of_ble_eq_true rfl) (by decide) rfl rfl rfl (fun x L2 g2 X2 Z2 h2 => ?_)
  obtain ⟨hB0, hE, eX⟩ := h2
  subst X2
  have hao2 : ao ∈ L2 := hE.1 _ hao
  have hgo2 : g2 ao = OUT cys v9 := (hE.2 _ hao).trans hgo1
  have hag := ag_columnMember hG hA hB0
  have hRL2 := hag.2.1 cys ad _ _ (hRL1.ext hE)
  refine j_istore G dL_law_1986 (by decide) rfl ?_
  refine j_aload_n G dL_law_1988 rfl ?_
  refine j_cVI G cvX7_thrown mlL_131 (c_X7_thrown hi) dL_law_1989 ⟨by decide, by decide⟩ ⟨by rw [r1c]; omega, by rw [r1s]; omega⟩ rfl rfl (Nat.le_of_ble_eq_true rfl) (by decide) rfl rfl rfl (fun t ht => ?_)
  refine j_iload G dL_law_1992 rfl ?_
  refine j_icmpS G 1999 dL_law_1994 (by decide) (ht.trans hag.2.2.1) ?_
  refine j_iload G dL_law_1999 rfl ?_
  have hk02 := hag.2.2.2.2
  refine j_if_ne G 2016 dL_law_2001 (by decide) (by omega) (fun c0 => ?_) (fun c0 => ?_)
  · refine j_goto G 2578 dL_law_2016 (by decide) ?_
    refine j_keep [0, 1, 2, 3, 4] ?_
    refine j_wid (cells' := cells + 200) (slots' := slots + 3000) (by omega) (by omega) ?_
    exact K _ _ _ _ ⟨hag.1, hRL2, ⟨hao2, hns, h33⟩, v9, hgo2⟩
  · refine j_aload_n G dL_law_2004 rfl ?_
    refine j_iconst G dL_law_2005 ?_
    refine j_laldO G dL_law_2006 hao2 hns hgo2 ?_
    refine j_iload G dL_law_2007 rfl ?_
    refine j_i2l G dL_law_2009 ?_
    refine j_lcmpS G dL_law_2010 (hag.2.2.2.1 c0) ?_
    refine j_if_eq G 2016 dL_law_2011 (by decide) (by decide) (fun _ => ?_) (fun h => absurd rfl h)
    refine j_goto G 2578 dL_law_2016 (by decide) ?_
    refine j_keep [0, 1, 2, 3, 4] ?_
    refine j_wid (cells' := cells + 200) (slots' := slots + 3000) (by omega) (by omega) ?_
    exact K _ _ _ _ ⟨hag.1, hRL2, ⟨hao2, hns, h33⟩, v9, hgo2⟩
set_option maxRecDepth 100000 in
set_option maxHeartbeats 8000000 in
theorem case_33 {p : Program} {l : Launch} {e : Env} {s : State} {m : MethodId} {below : List Frame} {meth : Method} {c : Code} {Q : State → Prop} {D : va_G} {cys : Nat → ClassId} {ad : Nat → Int → Nat} {b Ls : Nat} {xs : Nat → Int32} (hi : injA ad) (hst : l.stackTraces = false) (G : GG p l s m #[Value.ref b] meth c D cys ad (fun q => s.heap.size ≤ q) code RL 9) (hN : NCS s) (hk4 : HK4 cys s) (hX : va_X b Ls xs s s.heap) (hbl : b < s.heap.size) (hL : Ls ≤ 2560) {L : List Nat} {g : Nat → va_E} {X : Int64} {Z : ZT} {ao : Nat} (hI : INV cys ad ao L g Z) {i : Int} (hi0 : 0 ≤ i) (hi5 : i + 5 ≤ Ls) {cells slots : Nat} (hc : cells + 200 ≤ 601024) (hs : slots + 3000 ≤ 7293034)
    (K : ∀ (L1 : List Nat) (g1 : Nat → va_E) (X1 : Int64) (Z1 : ZT), INV cys ad ao L1 g1 Z1 → JJ p l e room_1 s m #[Value.ref b] below meth c D cys ad (fun q => s.heap.size ≤ q) Q 9 (cells + 200) (slots + 3000) L1 g1 X1 Z1 2578 (LV5 b ad ao i) []) :
    JJ p l e room_1 s m #[Value.ref b] below meth c D cys ad (fun q => s.heap.size ≤ q) Q 9 cells slots L g X Z 2019 (LV5 b ad ao i) [] := by
  obtain ⟨hG, hRL, ⟨hao, hns, h33⟩, v0, hgo⟩ := hI
  have hW := hG.1.1
  have hbA : ¬ (fun q => s.heap.size ≤ q) b := Nat.not_le.mpr hbl
  refine j_aload_n G dL_law_2019 rfl ?_
  refine j_aload_n G dL_law_2020 rfl ?_
  refine j_iload G dL_law_2021 rfl ?_
  refine j_iconst G dL_law_2023 ?_
  refine j_iadd G dL_law_2024 ?_
  refine j_sld G hX hbl hbA dL_law_2025 (by omega) (by omega) hL ?_
  refine j_aload_n G dL_law_2026 rfl ?_
  refine j_iload G dL_law_2027 rfl ?_
  refine j_iconst G dL_law_2029 ?_
  refine j_iadd G dL_law_2030 ?_
  refine j_sld G hX hbl hbA dL_law_2031 (by omega) (by omega) hL ?_
  refine j_aload_n G dL_law_2032 rfl ?_
  refine j_callW (n := 4) G hN (TW_of 886 (by decide +kernel) (by decide +kernel)) (TW_of 71 (by decide +kernel) (by decide +kernel)) (TW_of 887 (by decide +kernel) (by decide +kernel)) ⟨by decide +kernel, by decide +kernel, by decide +kernel⟩ (TW_of 885 (by decide +kernel) (by decide +kernel)) (cw_cell hi hst (SP.rf Z) hW (sv_in _ _) (sv_in _ _) hao hns hgo) dL_law_2033 ⟨by decide, by decide⟩ ⟨by rw [r1c]; omega, by rw [r1s]; omega⟩ rfl rfl (Nat.le_of_ble_eq_true rfl) (fun k L1 g1 X1 Z1 h => ?_)
  obtain ⟨eL, eX, v9, eg, hA⟩ := h
  subst L1 X1 g1
  have hR1 : RMZ Z Z1 := hG.2.hi (hi_cell hA)
  have hRL1 := hRL.out h33 hgo v9
  have hgo1 : va_up g ao (OUT cys v9) ao = OUT cys v9 := va_up_self _ _ _
  refine j_istore G dL_law_2036 (by decide) rfl ?_
  refine j_aload_n G dL_law_2038 rfl ?_
  refine j_aload_n G dL_law_2039 rfl ?_
  refine j_iload G dL_law_2040 rfl ?_
  refine j_iconst G dL_law_2042 ?_
  refine j_iadd G dL_law_2043 ?_
  refine j_sld G hX hbl hbA dL_law_2044 (by omega) (by omega) hL ?_
  refine j_aload_n G dL_law_2045 rfl ?_
  refine j_iload G dL_law_2046 rfl ?_
  refine j_iconst G dL_law_2048 ?_
  refine j_iadd G dL_law_2049 ?_
  refine j_sld G hX hbl hbA dL_law_2050 (by omega) (by omega) hL ?_
  refine j_cVGI G cvX7_cell mlL_247 (c_X7_cell hi hR1 hRL1 hW (sv_in _ _) (sv_in _ _)) dL_law_2051 ⟨by decide, by decide⟩ ⟨by rw [r1c]; omega, by rw [r1s]; omega⟩ rfl rfl (Nat.le_of_ble_eq_true rfl) (by decide) rfl rfl rfl (fun x L2 g2 X2 Z2 h2 => ?_)
  obtain ⟨hB0, hE, eX⟩ := h2
  subst X2
  have hao2 : ao ∈ L2 := hE.1 _ hao
  have hgo2 : g2 ao = OUT cys v9 := (hE.2 _ hao).trans hgo1
  have hag := ag_cell hG hA hB0
  have hRL2 := hag.2.1 cys ad _ _ (hRL1.ext hE)
  refine j_istore G dL_law_2054 (by decide) rfl ?_
  refine j_aload_n G dL_law_2056 rfl ?_
  refine j_cVI G cvX7_thrown mlL_131 (c_X7_thrown hi) dL_law_2057 ⟨by decide, by decide⟩ ⟨by rw [r1c]; omega, by rw [r1s]; omega⟩ rfl rfl (Nat.le_of_ble_eq_true rfl) (by decide) rfl rfl rfl (fun t ht => ?_)
  refine j_iload G dL_law_2060 rfl ?_
  refine j_icmpS G 2067 dL_law_2062 (by decide) (ht.trans hag.2.2.1) ?_
  refine j_iload G dL_law_2067 rfl ?_
  have hk02 := hag.2.2.2.2
  refine j_if_ne G 2084 dL_law_2069 (by decide) (by omega) (fun c0 => ?_) (fun c0 => ?_)
  · refine j_goto G 2578 dL_law_2084 (by decide) ?_
    refine j_keep [0, 1, 2, 3, 4] ?_
    refine j_wid (cells' := cells + 200) (slots' := slots + 3000) (by omega) (by omega) ?_
    exact K _ _ _ _ ⟨hag.1, hRL2, ⟨hao2, hns, h33⟩, v9, hgo2⟩
  · refine j_aload_n G dL_law_2072 rfl ?_
    refine j_iconst G dL_law_2073 ?_
    refine j_laldO G dL_law_2074 hao2 hns hgo2 ?_
    refine j_iload G dL_law_2075 rfl ?_
    refine j_i2l G dL_law_2077 ?_
    refine j_lcmpS G dL_law_2078 (hag.2.2.2.1 c0) ?_
    refine j_if_eq G 2084 dL_law_2079 (by decide) (by decide) (fun _ => ?_) (fun h => absurd rfl h)
    refine j_goto G 2578 dL_law_2084 (by decide) ?_
    refine j_keep [0, 1, 2, 3, 4] ?_
    refine j_wid (cells' := cells + 200) (slots' := slots + 3000) (by omega) (by omega) ?_
    exact K _ _ _ _ ⟨hag.1, hRL2, ⟨hao2, hns, h33⟩, v9, hgo2⟩
set_option maxRecDepth 100000 in
set_option maxHeartbeats 8000000 in
theorem case_34 {p : Program} {l : Launch} {e : Env} {s : State} {m : MethodId} {below : List Frame} {meth : Method} {c : Code} {Q : State → Prop} {D : va_G} {cys : Nat → ClassId} {ad : Nat → Int → Nat} {b Ls : Nat} {xs : Nat → Int32} (hi : injA ad) (hst : l.stackTraces = false) (G : GG p l s m #[Value.ref b] meth c D cys ad (fun q => s.heap.size ≤ q) code RL 9) (hN : NCS s) (hk4 : HK4 cys s) (hX : va_X b Ls xs s s.heap) (hbl : b < s.heap.size) (hL : Ls ≤ 2560) {L : List Nat} {g : Nat → va_E} {X : Int64} {Z : ZT} {ao : Nat} (hI : INV cys ad ao L g Z) {i : Int} (hi0 : 0 ≤ i) (hi5 : i + 5 ≤ Ls) {cells slots : Nat} (hc : cells + 200 ≤ 601024) (hs : slots + 3000 ≤ 7293034)
    (K : ∀ (L1 : List Nat) (g1 : Nat → va_E) (X1 : Int64) (Z1 : ZT), INV cys ad ao L1 g1 Z1 → JJ p l e room_1 s m #[Value.ref b] below meth c D cys ad (fun q => s.heap.size ≤ q) Q 9 (cells + 200) (slots + 3000) L1 g1 X1 Z1 2578 (LV5 b ad ao i) []) :
    JJ p l e room_1 s m #[Value.ref b] below meth c D cys ad (fun q => s.heap.size ≤ q) Q 9 cells slots L g X Z 2087 (LV5 b ad ao i) [] := by
  obtain ⟨hG, hRL, ⟨hao, hns, h33⟩, v0, hgo⟩ := hI
  have hW := hG.1.1
  have hbA : ¬ (fun q => s.heap.size ≤ q) b := Nat.not_le.mpr hbl
  refine j_aload_n G dL_law_2087 rfl ?_
  refine j_aload_n G dL_law_2088 rfl ?_
  refine j_iload G dL_law_2089 rfl ?_
  refine j_iconst G dL_law_2091 ?_
  refine j_iadd G dL_law_2092 ?_
  refine j_sld G hX hbl hbA dL_law_2093 (by omega) (by omega) hL ?_
  refine j_aload_n G dL_law_2094 rfl ?_
  refine j_callW (n := 3) G hN (TW_of 893 (by decide +kernel) (by decide +kernel)) (TW_of 71 (by decide +kernel) (by decide +kernel)) (TW_of 894 (by decide +kernel) (by decide +kernel)) ⟨by decide +kernel, by decide +kernel, by decide +kernel⟩ (TW_of 892 (by decide +kernel) (by decide +kernel)) (cw_peak hi hst (SP.rf Z) hW (sv_in _ _) hao hns hgo) dL_law_2095 ⟨by decide, by decide⟩ ⟨by rw [r1c]; omega, by rw [r1s]; omega⟩ rfl rfl (Nat.le_of_ble_eq_true rfl) (fun k L1 g1 X1 Z1 h => ?_)
  obtain ⟨eL, eX, v9, eg, hA⟩ := h
  subst L1 X1 g1
  have hR1 : RMZ Z Z1 := hG.2.hi (hi_peak hA)
  have hRL1 := hRL.out h33 hgo v9
  have hgo1 : va_up g ao (OUT cys v9) ao = OUT cys v9 := va_up_self _ _ _
  refine j_istore G dL_law_2098 (by decide) rfl ?_
  refine j_aload_n G dL_law_2100 rfl ?_
  refine j_aload_n G dL_law_2101 rfl ?_
  refine j_iload G dL_law_2102 rfl ?_
  refine j_iconst G dL_law_2104 ?_
  refine j_iadd G dL_law_2105 ?_
  refine j_sld G hX hbl hbA dL_law_2106 (by omega) (by omega) hL ?_
  refine j_cVGI G cvX7_peak mlL_250 (c_X7_peak hi hR1 hRL1 hW (sv_in _ _)) dL_law_2107 ⟨by decide, by decide⟩ ⟨by rw [r1c]; omega, by rw [r1s]; omega⟩ rfl rfl (Nat.le_of_ble_eq_true rfl) (by decide) rfl rfl rfl (fun x L2 g2 X2 Z2 h2 => ?_)
  obtain ⟨hB0, hE, eX⟩ := h2
  subst X2
  have hao2 : ao ∈ L2 := hE.1 _ hao
  have hgo2 : g2 ao = OUT cys v9 := (hE.2 _ hao).trans hgo1
  have hag := ag_peak hG hA hB0
  have hRL2 := hag.2.1 cys ad _ _ (hRL1.ext hE)
  refine j_istore G dL_law_2110 (by decide) rfl ?_
  refine j_aload_n G dL_law_2112 rfl ?_
  refine j_cVI G cvX7_thrown mlL_131 (c_X7_thrown hi) dL_law_2113 ⟨by decide, by decide⟩ ⟨by rw [r1c]; omega, by rw [r1s]; omega⟩ rfl rfl (Nat.le_of_ble_eq_true rfl) (by decide) rfl rfl rfl (fun t ht => ?_)
  refine j_iload G dL_law_2116 rfl ?_
  refine j_icmpS G 2123 dL_law_2118 (by decide) (ht.trans hag.2.2.1) ?_
  refine j_iload G dL_law_2123 rfl ?_
  have hk02 := hag.2.2.2.2
  refine j_if_ne G 2140 dL_law_2125 (by decide) (by omega) (fun c0 => ?_) (fun c0 => ?_)
  · refine j_goto G 2578 dL_law_2140 (by decide) ?_
    refine j_keep [0, 1, 2, 3, 4] ?_
    refine j_wid (cells' := cells + 200) (slots' := slots + 3000) (by omega) (by omega) ?_
    exact K _ _ _ _ ⟨hag.1, hRL2, ⟨hao2, hns, h33⟩, v9, hgo2⟩
  · refine j_aload_n G dL_law_2128 rfl ?_
    refine j_iconst G dL_law_2129 ?_
    refine j_laldO G dL_law_2130 hao2 hns hgo2 ?_
    refine j_iload G dL_law_2131 rfl ?_
    refine j_i2l G dL_law_2133 ?_
    refine j_lcmpS G dL_law_2134 (hag.2.2.2.1 c0) ?_
    refine j_if_eq G 2140 dL_law_2135 (by decide) (by decide) (fun _ => ?_) (fun h => absurd rfl h)
    refine j_goto G 2578 dL_law_2140 (by decide) ?_
    refine j_keep [0, 1, 2, 3, 4] ?_
    refine j_wid (cells' := cells + 200) (slots' := slots + 3000) (by omega) (by omega) ?_
    exact K _ _ _ _ ⟨hag.1, hRL2, ⟨hao2, hns, h33⟩, v9, hgo2⟩
set_option maxRecDepth 100000 in
set_option maxHeartbeats 8000000 in
theorem case_35 {p : Program} {l : Launch} {e : Env} {s : State} {m : MethodId} {below : List Frame} {meth : Method} {c : Code} {Q : State → Prop} {D : va_G} {cys : Nat → ClassId} {ad : Nat → Int → Nat} {b Ls : Nat} {xs : Nat → Int32} (hi : injA ad) (hst : l.stackTraces = false) (G : GG p l s m #[Value.ref b] meth c D cys ad (fun q => s.heap.size ≤ q) code RL 9) (hN : NCS s) (hk4 : HK4 cys s) (hX : va_X b Ls xs s s.heap) (hbl : b < s.heap.size) (hL : Ls ≤ 2560) {L : List Nat} {g : Nat → va_E} {X : Int64} {Z : ZT} {ao : Nat} (hI : INV cys ad ao L g Z) {i : Int} (hi0 : 0 ≤ i) (hi5 : i + 5 ≤ Ls) {cells slots : Nat} (hc : cells + 200 ≤ 601024) (hs : slots + 3000 ≤ 7293034)
    (K : ∀ (L1 : List Nat) (g1 : Nat → va_E) (X1 : Int64) (Z1 : ZT), INV cys ad ao L1 g1 Z1 → JJ p l e room_1 s m #[Value.ref b] below meth c D cys ad (fun q => s.heap.size ≤ q) Q 9 (cells + 200) (slots + 3000) L1 g1 X1 Z1 2578 (LV5 b ad ao i) []) :
    JJ p l e room_1 s m #[Value.ref b] below meth c D cys ad (fun q => s.heap.size ≤ q) Q 9 cells slots L g X Z 2143 (LV5 b ad ao i) [] := by
  obtain ⟨hG, hRL, ⟨hao, hns, h33⟩, v0, hgo⟩ := hI
  have hW := hG.1.1
  have hbA : ¬ (fun q => s.heap.size ≤ q) b := Nat.not_le.mpr hbl
  refine j_aload_n G dL_law_2143 rfl ?_
  refine j_aload_n G dL_law_2144 rfl ?_
  refine j_iload G dL_law_2145 rfl ?_
  refine j_iconst G dL_law_2147 ?_
  refine j_iadd G dL_law_2148 ?_
  refine j_sld G hX hbl hbA dL_law_2149 (by omega) (by omega) hL ?_
  refine j_aload_n G dL_law_2150 rfl ?_
  refine j_iload G dL_law_2151 rfl ?_
  refine j_iconst G dL_law_2153 ?_
  refine j_iadd G dL_law_2154 ?_
  refine j_sld G hX hbl hbA dL_law_2155 (by omega) (by omega) hL ?_
  refine j_aload_n G dL_law_2156 rfl ?_
  refine j_callW (n := 4) G hN (TW_of 900 (by decide +kernel) (by decide +kernel)) (TW_of 71 (by decide +kernel) (by decide +kernel)) (TW_of 901 (by decide +kernel) (by decide +kernel)) ⟨by decide +kernel, by decide +kernel, by decide +kernel⟩ (TW_of 899 (by decide +kernel) (by decide +kernel)) (cw_setLevel hi hst (SP.rf Z) hW (sv_in _ _) (sv_in _ _) hao hns hgo) dL_law_2157 ⟨by decide, by decide⟩ ⟨by rw [r1c]; omega, by rw [r1s]; omega⟩ rfl rfl (Nat.le_of_ble_eq_true rfl) (fun k L1 g1 X1 Z1 h => ?_)
  obtain ⟨eL, eX, v9, eg, hA⟩ := h
  subst L1 X1 g1
  have hR1 : RMZ Z Z1 := hG.2.hi (hi_setLevel hA)
  have hRL1 := hRL.out h33 hgo v9
  have hgo1 : va_up g ao (OUT cys v9) ao = OUT cys v9 := va_up_self _ _ _
  refine j_istore G dL_law_2160 (by decide) rfl ?_
  refine j_aload_n G dL_law_2162 rfl ?_
  refine j_aload_n G dL_law_2163 rfl ?_
  refine j_iload G dL_law_2164 rfl ?_
  refine j_iconst G dL_law_2166 ?_
  refine j_iadd G dL_law_2167 ?_
  refine j_sld G hX hbl hbA dL_law_2168 (by omega) (by omega) hL ?_
  refine j_aload_n G dL_law_2169 rfl ?_
  refine j_iload G dL_law_2170 rfl ?_
  refine j_iconst G dL_law_2172 ?_
  refine j_iadd G dL_law_2173 ?_
  refine j_sld G hX hbl hbA dL_law_2174 (by omega) (by omega) hL ?_
  refine j_cVIZ G cvX7_setLevel mlL_253 (c_X7_setLevel hi hR1 hW (sv_in _ _) (sv_in _ _)) dL_law_2175 ⟨by decide, by decide⟩ ⟨by rw [r1c]; omega, by rw [r1s]; omega⟩ rfl rfl (Nat.le_of_ble_eq_true rfl) (by decide) rfl rfl rfl (fun x Z2 hB => ?_)
  have hag := ag_setLevel hG hA hB
  have hRL2 := hag.2.1 cys ad _ _ hRL1
  refine j_istore G dL_law_2178 (by decide) rfl ?_
  refine j_aload_n G dL_law_2180 rfl ?_
  refine j_cVI G cvX7_thrown mlL_131 (c_X7_thrown hi) dL_law_2181 ⟨by decide, by decide⟩ ⟨by rw [r1c]; omega, by rw [r1s]; omega⟩ rfl rfl (Nat.le_of_ble_eq_true rfl) (by decide) rfl rfl rfl (fun t ht => ?_)
  refine j_iload G dL_law_2184 rfl ?_
  refine j_icmpS G 2191 dL_law_2186 (by decide) (ht.trans hag.2.2.1) ?_
  refine j_iload G dL_law_2191 rfl ?_
  have hk02 := hag.2.2.2.2
  refine j_if_ne G 2208 dL_law_2193 (by decide) (by omega) (fun c0 => ?_) (fun c0 => ?_)
  · refine j_goto G 2578 dL_law_2208 (by decide) ?_
    refine j_keep [0, 1, 2, 3, 4] ?_
    refine j_wid (cells' := cells + 200) (slots' := slots + 3000) (by omega) (by omega) ?_
    exact K _ _ _ _ ⟨hag.1, hRL2, ⟨hao, hns, h33⟩, v9, hgo1⟩
  · refine j_aload_n G dL_law_2196 rfl ?_
    refine j_iconst G dL_law_2197 ?_
    refine j_laldO G dL_law_2198 hao hns hgo1 ?_
    refine j_iload G dL_law_2199 rfl ?_
    refine j_i2l G dL_law_2201 ?_
    refine j_lcmpS G dL_law_2202 (hag.2.2.2.1 c0) ?_
    refine j_if_eq G 2208 dL_law_2203 (by decide) (by decide) (fun _ => ?_) (fun h => absurd rfl h)
    refine j_goto G 2578 dL_law_2208 (by decide) ?_
    refine j_keep [0, 1, 2, 3, 4] ?_
    refine j_wid (cells' := cells + 200) (slots' := slots + 3000) (by omega) (by omega) ?_
    exact K _ _ _ _ ⟨hag.1, hRL2, ⟨hao, hns, h33⟩, v9, hgo1⟩
