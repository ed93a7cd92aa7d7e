/-! the law: its instructions -/
theorem d_Law_law_1941 : decode code 1941 = .ok (.ireturn, 1) := by decide +kernel
theorem d_Law_law_1942 : decode code 1942 = .ok (.goto 991, 3) := by decide +kernel
theorem d_Law_law_1945 : decode code 1945 = .ok (.aload_n 1, 1) := by decide +kernel
theorem d_Law_law_1946 : decode code 1946 = .ok (.invokevirtual 284, 3) := by decide +kernel
theorem d_Law_law_1949 : decode code 1949 = .ok (.aload_n 2, 1) := by decide +kernel
theorem d_Law_law_1950 : decode code 1950 = .ok (.invokevirtual 287, 3) := by decide +kernel
theorem d_Law_law_1953 : decode code 1953 = .ok (.if_icmp .eq 980, 3) := by decide +kernel
theorem d_Law_law_1956 : decode code 1956 = .ok (.iconst 0, 1) := by decide +kernel
theorem d_Law_law_1957 : decode code 1957 = .ok (.ireturn, 1) := by decide +kernel
theorem d_Law_law_1958 : decode code 1958 = .ok (.aload_n 1, 1) := by decide +kernel
theorem d_Law_law_1959 : decode code 1959 = .ok (.invokevirtual 288, 3) := by decide +kernel
theorem d_Law_law_1962 : decode code 1962 = .ok (.aload_n 2, 1) := by decide +kernel
theorem d_Law_law_1963 : decode code 1963 = .ok (.invokevirtual 291, 3) := by decide +kernel
theorem d_Law_law_1966 : decode code 1966 = .ok (.if_icmp .eq 967, 3) := by decide +kernel
theorem d_Law_law_1969 : decode code 1969 = .ok (.iconst 0, 1) := by decide +kernel
theorem d_Law_law_1970 : decode code 1970 = .ok (.ireturn, 1) := by decide +kernel
theorem d_Law_law_1971 : decode code 1971 = .ok (.aload_n 1, 1) := by decide +kernel
theorem d_Law_law_1972 : decode code 1972 = .ok (.aload_n 0, 1) := by decide +kernel
theorem d_Law_law_1973 : decode code 1973 = .ok (.iload 5, 2) := by decide +kernel
theorem d_Law_law_1975 : decode code 1975 = .ok (.iconst 1, 1) := by decide +kernel
theorem d_Law_law_1976 : decode code 1976 = .ok (.iadd, 1) := by decide +kernel
theorem d_Law_law_1977 : decode code 1977 = .ok (.iaload, 1) := by decide +kernel
theorem d_Law_law_1978 : decode code 1978 = .ok (.aload_n 3, 1) := by decide +kernel
theorem d_Law_law_1979 : decode code 1979 = .ok (.invokestatic 292, 3) := by decide +kernel
theorem d_Law_law_1982 : decode code 1982 = .ok (.istore 6, 2) := by decide +kernel
theorem d_Law_law_1984 : decode code 1984 = .ok (.aload_n 2, 1) := by decide +kernel
theorem d_Law_law_1985 : decode code 1985 = .ok (.aload_n 0, 1) := by decide +kernel
theorem d_Law_law_1986 : decode code 1986 = .ok (.iload 5, 2) := by decide +kernel
theorem d_Law_law_1988 : decode code 1988 = .ok (.iconst 1, 1) := by decide +kernel
theorem d_Law_law_1989 : decode code 1989 = .ok (.iadd, 1) := by decide +kernel
theorem d_Law_law_1990 : decode code 1990 = .ok (.iaload, 1) := by decide +kernel
theorem d_Law_law_1991 : decode code 1991 = .ok (.invokevirtual 294, 3) := by decide +kernel
theorem d_Law_law_1994 : decode code 1994 = .ok (.istore 7, 2) := by decide +kernel
theorem d_Law_law_1996 : decode code 1996 = .ok (.aload_n 2, 1) := by decide +kernel
theorem d_Law_law_1997 : decode code 1997 = .ok (.invokevirtual 163, 3) := by decide +kernel
theorem d_Law_law_2000 : decode code 2000 = .ok (.iload 6, 2) := by decide +kernel
theorem d_Law_law_2002 : decode code 2002 = .ok (.if_icmp .eq 5, 3) := by decide +kernel
theorem d_Law_law_2005 : decode code 2005 = .ok (.iconst 0, 1) := by decide +kernel
theorem d_Law_law_2006 : decode code 2006 = .ok (.ireturn, 1) := by decide +kernel
theorem d_Law_law_2007 : decode code 2007 = .ok (.iload 6, 2) := by decide +kernel
theorem d_Law_law_2009 : decode code 2009 = .ok (.ifCond .ne 15, 3) := by decide +kernel
theorem d_Law_law_2012 : decode code 2012 = .ok (.aload_n 3, 1) := by decide +kernel
theorem d_Law_law_2013 : decode code 2013 = .ok (.iconst 0, 1) := by decide +kernel
theorem d_Law_law_2014 : decode code 2014 = .ok (.laload, 1) := by decide +kernel
theorem d_Law_law_2015 : decode code 2015 = .ok (.iload 7, 2) := by decide +kernel
theorem d_Law_law_2017 : decode code 2017 = .ok (.i2l, 1) := by decide +kernel
theorem d_Law_law_2018 : decode code 2018 = .ok (.lcmp, 1) := by decide +kernel
theorem d_Law_law_2019 : decode code 2019 = .ok (.ifCond .eq 5, 3) := by decide +kernel
theorem d_Law_law_2022 : decode code 2022 = .ok (.iconst 0, 1) := by decide +kernel
theorem d_Law_law_2023 : decode code 2023 = .ok (.ireturn, 1) := by decide +kernel
theorem d_Law_law_2024 : decode code 2024 = .ok (.goto 909, 3) := by decide +kernel
theorem d_Law_law_2027 : decode code 2027 = .ok (.aload_n 1, 1) := by decide +kernel
theorem d_Law_law_2028 : decode code 2028 = .ok (.aload_n 0, 1) := by decide +kernel
theorem d_Law_law_2029 : decode code 2029 = .ok (.iload 5, 2) := by decide +kernel
theorem d_Law_law_2031 : decode code 2031 = .ok (.iconst 1, 1) := by decide +kernel
theorem d_Law_law_2032 : decode code 2032 = .ok (.iadd, 1) := by decide +kernel
theorem d_Law_law_2033 : decode code 2033 = .ok (.iaload, 1) := by decide +kernel
theorem d_Law_law_2034 : decode code 2034 = .ok (.aload_n 3, 1) := by decide +kernel
theorem d_Law_law_2035 : decode code 2035 = .ok (.invokestatic 295, 3) := by decide +kernel
theorem d_Law_law_2038 : decode code 2038 = .ok (.istore 6, 2) := by decide +kernel
theorem d_Law_law_2040 : decode code 2040 = .ok (.aload_n 2, 1) := by decide +kernel
theorem d_Law_law_2041 : decode code 2041 = .ok (.aload_n 0, 1) := by decide +kernel
theorem d_Law_law_2042 : decode code 2042 = .ok (.iload 5, 2) := by decide +kernel
theorem d_Law_law_2044 : decode code 2044 = .ok (.iconst 1, 1) := by decide +kernel
theorem d_Law_law_2045 : decode code 2045 = .ok (.iadd, 1) := by decide +kernel
theorem d_Law_law_2046 : decode code 2046 = .ok (.iaload, 1) := by decide +kernel
theorem d_Law_law_2047 : decode code 2047 = .ok (.invokevirtual 297, 3) := by decide +kernel
theorem d_Law_law_2050 : decode code 2050 = .ok (.istore 7, 2) := by decide +kernel
theorem d_Law_law_2052 : decode code 2052 = .ok (.aload_n 2, 1) := by decide +kernel
theorem d_Law_law_2053 : decode code 2053 = .ok (.invokevirtual 163, 3) := by decide +kernel
theorem d_Law_law_2056 : decode code 2056 = .ok (.iload 6, 2) := by decide +kernel
theorem d_Law_law_2058 : decode code 2058 = .ok (.if_icmp .eq 5, 3) := by decide +kernel
theorem d_Law_law_2061 : decode code 2061 = .ok (.iconst 0, 1) := by decide +kernel
theorem d_Law_law_2062 : decode code 2062 = .ok (.ireturn, 1) := by decide +kernel
theorem d_Law_law_2063 : decode code 2063 = .ok (.iload 6, 2) := by decide +kernel
theorem d_Law_law_2065 : decode code 2065 = .ok (.ifCond .ne 15, 3) := by decide +kernel
theorem d_Law_law_2068 : decode code 2068 = .ok (.aload_n 3, 1) := by decide +kernel
theorem d_Law_law_2069 : decode code 2069 = .ok (.iconst 0, 1) := by decide +kernel
theorem d_Law_law_2070 : decode code 2070 = .ok (.laload, 1) := by decide +kernel
theorem d_Law_law_2071 : decode code 2071 = .ok (.iload 7, 2) := by decide +kernel
theorem d_Law_law_2073 : decode code 2073 = .ok (.i2l, 1) := by decide +kernel
theorem d_Law_law_2074 : decode code 2074 = .ok (.lcmp, 1) := by decide +kernel
theorem d_Law_law_2075 : decode code 2075 = .ok (.ifCond .eq 5, 3) := by decide +kernel
theorem d_Law_law_2078 : decode code 2078 = .ok (.iconst 0, 1) := by decide +kernel
theorem d_Law_law_2079 : decode code 2079 = .ok (.ireturn, 1) := by decide +kernel
theorem d_Law_law_2080 : decode code 2080 = .ok (.goto 853, 3) := by decide +kernel
theorem d_Law_law_2083 : decode code 2083 = .ok (.aload_n 1, 1) := by decide +kernel
theorem d_Law_law_2084 : decode code 2084 = .ok (.aload_n 0, 1) := by decide +kernel
theorem d_Law_law_2085 : decode code 2085 = .ok (.iload 5, 2) := by decide +kernel
theorem d_Law_law_2087 : decode code 2087 = .ok (.iconst 1, 1) := by decide +kernel
theorem d_Law_law_2088 : decode code 2088 = .ok (.iadd, 1) := by decide +kernel
theorem d_Law_law_2089 : decode code 2089 = .ok (.iaload, 1) := by decide +kernel
theorem d_Law_law_2090 : decode code 2090 = .ok (.aload_n 3, 1) := by decide +kernel
theorem d_Law_law_2091 : decode code 2091 = .ok (.invokestatic 298, 3) := by decide +kernel
theorem d_Law_law_2094 : decode code 2094 = .ok (.istore 6, 2) := by decide +kernel
theorem d_Law_law_2096 : decode code 2096 = .ok (.aload_n 2, 1) := by decide +kernel
theorem d_Law_law_2097 : decode code 2097 = .ok (.aload_n 0, 1) := by decide +kernel
theorem d_Law_law_2098 : decode code 2098 = .ok (.iload 5, 2) := by decide +kernel
theorem d_Law_law_2100 : decode code 2100 = .ok (.iconst 1, 1) := by decide +kernel
theorem d_Law_law_2101 : decode code 2101 = .ok (.iadd, 1) := by decide +kernel
theorem d_Law_law_2102 : decode code 2102 = .ok (.iaload, 1) := by decide +kernel
theorem d_Law_law_2103 : decode code 2103 = .ok (.invokevirtual 300, 3) := by decide +kernel
theorem d_Law_law_2106 : decode code 2106 = .ok (.istore 7, 2) := by decide +kernel
theorem d_Law_law_2108 : decode code 2108 = .ok (.aload_n 2, 1) := by decide +kernel
theorem d_Law_law_2109 : decode code 2109 = .ok (.invokevirtual 163, 3) := by decide +kernel
theorem d_Law_law_2112 : decode code 2112 = .ok (.iload 6, 2) := by decide +kernel
theorem d_Law_law_2114 : decode code 2114 = .ok (.if_icmp .eq 5, 3) := by decide +kernel
theorem d_Law_law_2117 : decode code 2117 = .ok (.iconst 0, 1) := by decide +kernel
theorem d_Law_law_2118 : decode code 2118 = .ok (.ireturn, 1) := by decide +kernel
theorem d_Law_law_2119 : decode code 2119 = .ok (.iload 6, 2) := by decide +kernel
theorem d_Law_law_2121 : decode code 2121 = .ok (.ifCond .ne 15, 3) := by decide +kernel
theorem d_Law_law_2124 : decode code 2124 = .ok (.aload_n 3, 1) := by decide +kernel
theorem d_Law_law_2125 : decode code 2125 = .ok (.iconst 0, 1) := by decide +kernel
theorem d_Law_law_2126 : decode code 2126 = .ok (.laload, 1) := by decide +kernel
theorem d_Law_law_2127 : decode code 2127 = .ok (.iload 7, 2) := by decide +kernel
theorem d_Law_law_2129 : decode code 2129 = .ok (.i2l, 1) := by decide +kernel
theorem d_Law_law_2130 : decode code 2130 = .ok (.lcmp, 1) := by decide +kernel
theorem d_Law_law_2131 : decode code 2131 = .ok (.ifCond .eq 5, 3) := by decide +kernel
theorem d_Law_law_2134 : decode code 2134 = .ok (.iconst 0, 1) := by decide +kernel
theorem d_Law_law_2135 : decode code 2135 = .ok (.ireturn, 1) := by decide +kernel
theorem d_Law_law_2136 : decode code 2136 = .ok (.goto 797, 3) := by decide +kernel
theorem d_Law_law_2139 : decode code 2139 = .ok (.aload_n 1, 1) := by decide +kernel
theorem d_Law_law_2140 : decode code 2140 = .ok (.aload_n 0, 1) := by decide +kernel
theorem d_Law_law_2141 : decode code 2141 = .ok (.iload 5, 2) := by decide +kernel
theorem d_Law_law_2143 : decode code 2143 = .ok (.iconst 1, 1) := by decide +kernel
theorem d_Law_law_2144 : decode code 2144 = .ok (.iadd, 1) := by decide +kernel
theorem d_Law_law_2145 : decode code 2145 = .ok (.iaload, 1) := by decide +kernel
theorem d_Law_law_2146 : decode code 2146 = .ok (.aload_n 3, 1) := by decide +kernel
theorem d_Law_law_2147 : decode code 2147 = .ok (.invokestatic 301, 3) := by decide +kernel
theorem d_Law_law_2150 : decode code 2150 = .ok (.istore 6, 2) := by decide +kernel
theorem d_Law_law_2152 : decode code 2152 = .ok (.aload_n 2, 1) := by decide +kernel
theorem d_Law_law_2153 : decode code 2153 = .ok (.aload_n 0, 1) := by decide +kernel
theorem d_Law_law_2154 : decode code 2154 = .ok (.iload 5, 2) := by decide +kernel
theorem d_Law_law_2156 : decode code 2156 = .ok (.iconst 1, 1) := by decide +kernel
theorem d_Law_law_2157 : decode code 2157 = .ok (.iadd, 1) := by decide +kernel
theorem d_Law_law_2158 : decode code 2158 = .ok (.iaload, 1) := by decide +kernel
theorem d_Law_law_2159 : decode code 2159 = .ok (.invokevirtual 303, 3) := by decide +kernel
theorem d_Law_law_2162 : decode code 2162 = .ok (.istore 7, 2) := by decide +kernel
theorem d_Law_law_2164 : decode code 2164 = .ok (.aload_n 2, 1) := by decide +kernel
theorem d_Law_law_2165 : decode code 2165 = .ok (.invokevirtual 163, 3) := by decide +kernel
theorem d_Law_law_2168 : decode code 2168 = .ok (.iload 6, 2) := by decide +kernel
theorem d_Law_law_2170 : decode code 2170 = .ok (.if_icmp .eq 5, 3) := by decide +kernel
theorem d_Law_law_2173 : decode code 2173 = .ok (.iconst 0, 1) := by decide +kernel
theorem d_Law_law_2174 : decode code 2174 = .ok (.ireturn, 1) := by decide +kernel
theorem d_Law_law_2175 : decode code 2175 = .ok (.iload 6, 2) := by decide +kernel
theorem d_Law_law_2177 : decode code 2177 = .ok (.ifCond .ne 15, 3) := by decide +kernel
theorem d_Law_law_2180 : decode code 2180 = .ok (.aload_n 3, 1) := by decide +kernel
theorem d_Law_law_2181 : decode code 2181 = .ok (.iconst 0, 1) := by decide +kernel
theorem d_Law_law_2182 : decode code 2182 = .ok (.laload, 1) := by decide +kernel
theorem d_Law_law_2183 : decode code 2183 = .ok (.iload 7, 2) := by decide +kernel
theorem d_Law_law_2185 : decode code 2185 = .ok (.i2l, 1) := by decide +kernel
theorem d_Law_law_2186 : decode code 2186 = .ok (.lcmp, 1) := by decide +kernel
theorem d_Law_law_2187 : decode code 2187 = .ok (.ifCond .eq 5, 3) := by decide +kernel
theorem d_Law_law_2190 : decode code 2190 = .ok (.iconst 0, 1) := by decide +kernel
theorem d_Law_law_2191 : decode code 2191 = .ok (.ireturn, 1) := by decide +kernel
theorem d_Law_law_2192 : decode code 2192 = .ok (.goto 741, 3) := by decide +kernel
theorem d_Law_law_2195 : decode code 2195 = .ok (.aload_n 1, 1) := by decide +kernel
theorem d_Law_law_2196 : decode code 2196 = .ok (.invokevirtual 304, 3) := by decide +kernel
theorem d_Law_law_2199 : decode code 2199 = .ok (.aload_n 2, 1) := by decide +kernel
theorem d_Law_law_2200 : decode code 2200 = .ok (.invokevirtual 307, 3) := by decide +kernel
theorem d_Law_law_2203 : decode code 2203 = .ok (.if_icmp .eq 730, 3) := by decide +kernel
theorem d_Law_law_2206 : decode code 2206 = .ok (.iconst 0, 1) := by decide +kernel
theorem d_Law_law_2207 : decode code 2207 = .ok (.ireturn, 1) := by decide +kernel
theorem d_Law_law_2208 : decode code 2208 = .ok (.aload_n 1, 1) := by decide +kernel
theorem d_Law_law_2209 : decode code 2209 = .ok (.aload_n 3, 1) := by decide +kernel
theorem d_Law_law_2210 : decode code 2210 = .ok (.invokestatic 308, 3) := by decide +kernel
theorem d_Law_law_2213 : decode code 2213 = .ok (.istore 6, 2) := by decide +kernel
theorem d_Law_law_2215 : decode code 2215 = .ok (.aload_n 2, 1) := by decide +kernel
theorem d_Law_law_2216 : decode code 2216 = .ok (.invokevirtual 310, 3) := by decide +kernel
theorem d_Law_law_2219 : decode code 2219 = .ok (.istore 7, 2) := by decide +kernel
theorem d_Law_law_2221 : decode code 2221 = .ok (.aload_n 2, 1) := by decide +kernel
theorem d_Law_law_2222 : decode code 2222 = .ok (.invokevirtual 163, 3) := by decide +kernel
theorem d_Law_law_2225 : decode code 2225 = .ok (.iload 6, 2) := by decide +kernel
theorem d_Law_law_2227 : decode code 2227 = .ok (.if_icmp .eq 5, 3) := by decide +kernel
theorem d_Law_law_2230 : decode code 2230 = .ok (.iconst 0, 1) := by decide +kernel
theorem d_Law_law_2231 : decode code 2231 = .ok (.ireturn, 1) := by decide +kernel
theorem d_Law_law_2232 : decode code 2232 = .ok (.iload 6, 2) := by decide +kernel
theorem d_Law_law_2234 : decode code 2234 = .ok (.ifCond .ne 22, 3) := by decide +kernel
theorem d_Law_law_2237 : decode code 2237 = .ok (.aload_n 3, 1) := by decide +kernel
theorem d_Law_law_2238 : decode code 2238 = .ok (.iconst 0, 1) := by decide +kernel
theorem d_Law_law_2239 : decode code 2239 = .ok (.laload, 1) := by decide +kernel
theorem d_Law_law_2240 : decode code 2240 = .ok (.iload 7, 2) := by decide +kernel
theorem d_Law_law_2242 : decode code 2242 = .ok (.ifCond .eq 7, 3) := by decide +kernel
theorem d_Law_law_2245 : decode code 2245 = .ok (.lconst 1, 1) := by decide +kernel
theorem d_Law_law_2246 : decode code 2246 = .ok (.goto 4, 3) := by decide +kernel
theorem d_Law_law_2249 : decode code 2249 = .ok (.lconst 0, 1) := by decide +kernel
theorem d_Law_law_2250 : decode code 2250 = .ok (.lcmp, 1) := by decide +kernel
theorem d_Law_law_2251 : decode code 2251 = .ok (.ifCond .eq 5, 3) := by decide +kernel
theorem d_Law_law_2254 : decode code 2254 = .ok (.iconst 0, 1) := by decide +kernel
theorem d_Law_law_2255 : decode code 2255 = .ok (.ireturn, 1) := by decide +kernel
theorem d_Law_law_2256 : decode code 2256 = .ok (.goto 677, 3) := by decide +kernel
theorem d_Law_law_2259 : decode code 2259 = .ok (.aload_n 1, 1) := by decide +kernel
theorem d_Law_law_2260 : decode code 2260 = .ok (.invokevirtual 311, 3) := by decide +kernel
theorem d_Law_law_2263 : decode code 2263 = .ok (.aload_n 2, 1) := by decide +kernel
theorem d_Law_law_2264 : decode code 2264 = .ok (.invokevirtual 314, 3) := by decide +kernel
theorem d_Law_law_2267 : decode code 2267 = .ok (.if_icmp .eq 666, 3) := by decide +kernel
theorem d_Law_law_2270 : decode code 2270 = .ok (.iconst 0, 1) := by decide +kernel
theorem d_Law_law_2271 : decode code 2271 = .ok (.ireturn, 1) := by decide +kernel
theorem d_Law_law_2272 : decode code 2272 = .ok (.aload_n 1, 1) := by decide +kernel
theorem d_Law_law_2273 : decode code 2273 = .ok (.aload_n 0, 1) := by decide +kernel
theorem d_Law_law_2274 : decode code 2274 = .ok (.iload 5, 2) := by decide +kernel
theorem d_Law_law_2276 : decode code 2276 = .ok (.iconst 1, 1) := by decide +kernel
theorem d_Law_law_2277 : decode code 2277 = .ok (.iadd, 1) := by decide +kernel
theorem d_Law_law_2278 : decode code 2278 = .ok (.iaload, 1) := by decide +kernel
theorem d_Law_law_2279 : decode code 2279 = .ok (.aload_n 3, 1) := by decide +kernel
theorem d_Law_law_2280 : decode code 2280 = .ok (.invokestatic 315, 3) := by decide +kernel
theorem d_Law_law_2283 : decode code 2283 = .ok (.istore 6, 2) := by decide +kernel
theorem d_Law_law_2285 : decode code 2285 = .ok (.aload_n 2, 1) := by decide +kernel
theorem d_Law_law_2286 : decode code 2286 = .ok (.aload_n 0, 1) := by decide +kernel
theorem d_Law_law_2287 : decode code 2287 = .ok (.iload 5, 2) := by decide +kernel
