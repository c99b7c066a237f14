theorem dL_law_1938 : decode cL_law 1938 = .ok (.aload_n 0, 1) := by decide +kernel
theorem dL_law_1939 : decode cL_law 1939 = .ok (.iload_n 3, 1) := by decide +kernel
theorem dL_law_1940 : decode cL_law 1940 = .ok (.iconst 1, 1) := by decide +kernel
theorem dL_law_1941 : decode cL_law 1941 = .ok (.iadd, 1) := by decide +kernel
theorem dL_law_1942 : decode cL_law 1942 = .ok (.iaload, 1) := by decide +kernel
theorem dL_law_1943 : decode cL_law 1943 = .ok (.invokevirtual 250, 3) := by decide +kernel
theorem dL_law_1946 : decode cL_law 1946 = .ok (.pop, 1) := by decide +kernel
theorem dL_law_1947 : decode cL_law 1947 = .ok (.aload_n 2, 1) := by decide +kernel
theorem dL_law_1948 : decode cL_law 1948 = .ok (.aload_n 0, 1) := by decide +kernel
theorem dL_law_1949 : decode cL_law 1949 = .ok (.iload_n 3, 1) := by decide +kernel
theorem dL_law_1950 : decode cL_law 1950 = .ok (.iconst 1, 1) := by decide +kernel
theorem dL_law_1951 : decode cL_law 1951 = .ok (.iadd, 1) := by decide +kernel
theorem dL_law_1952 : decode cL_law 1952 = .ok (.iaload, 1) := by decide +kernel
theorem dL_law_1953 : decode cL_law 1953 = .ok (.invokevirtual 253, 3) := by decide +kernel
theorem dL_law_1956 : decode cL_law 1956 = .ok (.pop, 1) := by decide +kernel
theorem dL_law_1957 : decode cL_law 1957 = .ok (.goto 205, 3) := by decide +kernel
theorem dL_law_1960 : decode cL_law 1960 = .ok (.aload_n 1, 1) := by decide +kernel
theorem dL_law_1961 : decode cL_law 1961 = .ok (.aload_n 0, 1) := by decide +kernel
theorem dL_law_1962 : decode cL_law 1962 = .ok (.iload_n 3, 1) := by decide +kernel
theorem dL_law_1963 : decode cL_law 1963 = .ok (.iconst 1, 1) := by decide +kernel
theorem dL_law_1964 : decode cL_law 1964 = .ok (.iadd, 1) := by decide +kernel
theorem dL_law_1965 : decode cL_law 1965 = .ok (.iaload, 1) := by decide +kernel
theorem dL_law_1966 : decode cL_law 1966 = .ok (.invokevirtual 254, 3) := by decide +kernel
theorem dL_law_1969 : decode cL_law 1969 = .ok (.pop, 1) := by decide +kernel
theorem dL_law_1970 : decode cL_law 1970 = .ok (.aload_n 2, 1) := by decide +kernel
theorem dL_law_1971 : decode cL_law 1971 = .ok (.aload_n 0, 1) := by decide +kernel
theorem dL_law_1972 : decode cL_law 1972 = .ok (.iload_n 3, 1) := by decide +kernel
theorem dL_law_1973 : decode cL_law 1973 = .ok (.iconst 1, 1) := by decide +kernel
theorem dL_law_1974 : decode cL_law 1974 = .ok (.iadd, 1) := by decide +kernel
theorem dL_law_1975 : decode cL_law 1975 = .ok (.iaload, 1) := by decide +kernel
theorem dL_law_1976 : decode cL_law 1976 = .ok (.invokevirtual 257, 3) := by decide +kernel
theorem dL_law_1979 : decode cL_law 1979 = .ok (.pop, 1) := by decide +kernel
theorem dL_law_1980 : decode cL_law 1980 = .ok (.goto 182, 3) := by decide +kernel
theorem dL_law_1983 : decode cL_law 1983 = .ok (.aload_n 1, 1) := by decide +kernel
theorem dL_law_1984 : decode cL_law 1984 = .ok (.aload_n 0, 1) := by decide +kernel
theorem dL_law_1985 : decode cL_law 1985 = .ok (.iload_n 3, 1) := by decide +kernel
theorem dL_law_1986 : decode cL_law 1986 = .ok (.iconst 1, 1) := by decide +kernel
theorem dL_law_1987 : decode cL_law 1987 = .ok (.iadd, 1) := by decide +kernel
theorem dL_law_1988 : decode cL_law 1988 = .ok (.iaload, 1) := by decide +kernel
theorem dL_law_1989 : decode cL_law 1989 = .ok (.aload_n 0, 1) := by decide +kernel
theorem dL_law_1990 : decode cL_law 1990 = .ok (.iload_n 3, 1) := by decide +kernel
theorem dL_law_1991 : decode cL_law 1991 = .ok (.iconst 2, 1) := by decide +kernel
theorem dL_law_1992 : decode cL_law 1992 = .ok (.iadd, 1) := by decide +kernel
theorem dL_law_1993 : decode cL_law 1993 = .ok (.iaload, 1) := by decide +kernel
theorem dL_law_1994 : decode cL_law 1994 = .ok (.aload_n 0, 1) := by decide +kernel
theorem dL_law_1995 : decode cL_law 1995 = .ok (.iload_n 3, 1) := by decide +kernel
theorem dL_law_1996 : decode cL_law 1996 = .ok (.iconst 3, 1) := by decide +kernel
theorem dL_law_1997 : decode cL_law 1997 = .ok (.iadd, 1) := by decide +kernel
theorem dL_law_1998 : decode cL_law 1998 = .ok (.iaload, 1) := by decide +kernel
theorem dL_law_1999 : decode cL_law 1999 = .ok (.invokevirtual 258, 3) := by decide +kernel
theorem dL_law_2002 : decode cL_law 2002 = .ok (.pop, 1) := by decide +kernel
theorem dL_law_2003 : decode cL_law 2003 = .ok (.aload_n 2, 1) := by decide +kernel
theorem dL_law_2004 : decode cL_law 2004 = .ok (.aload_n 0, 1) := by decide +kernel
theorem dL_law_2005 : decode cL_law 2005 = .ok (.iload_n 3, 1) := by decide +kernel
theorem dL_law_2006 : decode cL_law 2006 = .ok (.iconst 1, 1) := by decide +kernel
theorem dL_law_2007 : decode cL_law 2007 = .ok (.iadd, 1) := by decide +kernel
theorem dL_law_2008 : decode cL_law 2008 = .ok (.iaload, 1) := by decide +kernel
theorem dL_law_2009 : decode cL_law 2009 = .ok (.aload_n 0, 1) := by decide +kernel
theorem dL_law_2010 : decode cL_law 2010 = .ok (.iload_n 3, 1) := by decide +kernel
theorem dL_law_2011 : decode cL_law 2011 = .ok (.iconst 2, 1) := by decide +kernel
theorem dL_law_2012 : decode cL_law 2012 = .ok (.iadd, 1) := by decide +kernel
theorem dL_law_2013 : decode cL_law 2013 = .ok (.iaload, 1) := by decide +kernel
theorem dL_law_2014 : decode cL_law 2014 = .ok (.aload_n 0, 1) := by decide +kernel
theorem dL_law_2015 : decode cL_law 2015 = .ok (.iload_n 3, 1) := by decide +kernel
theorem dL_law_2016 : decode cL_law 2016 = .ok (.iconst 3, 1) := by decide +kernel
theorem dL_law_2017 : decode cL_law 2017 = .ok (.iadd, 1) := by decide +kernel
theorem dL_law_2018 : decode cL_law 2018 = .ok (.iaload, 1) := by decide +kernel
theorem dL_law_2019 : decode cL_law 2019 = .ok (.invokevirtual 261, 3) := by decide +kernel
theorem dL_law_2022 : decode cL_law 2022 = .ok (.pop, 1) := by decide +kernel
theorem dL_law_2023 : decode cL_law 2023 = .ok (.goto 139, 3) := by decide +kernel
theorem dL_law_2026 : decode cL_law 2026 = .ok (.aload_n 1, 1) := by decide +kernel
theorem dL_law_2027 : decode cL_law 2027 = .ok (.aload_n 0, 1) := by decide +kernel
theorem dL_law_2028 : decode cL_law 2028 = .ok (.iload_n 3, 1) := by decide +kernel
theorem dL_law_2029 : decode cL_law 2029 = .ok (.iconst 1, 1) := by decide +kernel
theorem dL_law_2030 : decode cL_law 2030 = .ok (.iadd, 1) := by decide +kernel
theorem dL_law_2031 : decode cL_law 2031 = .ok (.iaload, 1) := by decide +kernel
theorem dL_law_2032 : decode cL_law 2032 = .ok (.aload_n 0, 1) := by decide +kernel
theorem dL_law_2033 : decode cL_law 2033 = .ok (.iload_n 3, 1) := by decide +kernel
theorem dL_law_2034 : decode cL_law 2034 = .ok (.iconst 2, 1) := by decide +kernel
theorem dL_law_2035 : decode cL_law 2035 = .ok (.iadd, 1) := by decide +kernel
theorem dL_law_2036 : decode cL_law 2036 = .ok (.iaload, 1) := by decide +kernel
theorem dL_law_2037 : decode cL_law 2037 = .ok (.aload_n 0, 1) := by decide +kernel
theorem dL_law_2038 : decode cL_law 2038 = .ok (.iload_n 3, 1) := by decide +kernel
theorem dL_law_2039 : decode cL_law 2039 = .ok (.iconst 3, 1) := by decide +kernel
theorem dL_law_2040 : decode cL_law 2040 = .ok (.iadd, 1) := by decide +kernel
theorem dL_law_2041 : decode cL_law 2041 = .ok (.iaload, 1) := by decide +kernel
theorem dL_law_2042 : decode cL_law 2042 = .ok (.i2l, 1) := by decide +kernel
theorem dL_law_2043 : decode cL_law 2043 = .ok (.bipush 32, 2) := by decide +kernel
theorem dL_law_2045 : decode cL_law 2045 = .ok (.lshl, 1) := by decide +kernel
theorem dL_law_2046 : decode cL_law 2046 = .ok (.aload_n 0, 1) := by decide +kernel
theorem dL_law_2047 : decode cL_law 2047 = .ok (.iload_n 3, 1) := by decide +kernel
theorem dL_law_2048 : decode cL_law 2048 = .ok (.iconst 4, 1) := by decide +kernel
theorem dL_law_2049 : decode cL_law 2049 = .ok (.iadd, 1) := by decide +kernel
theorem dL_law_2050 : decode cL_law 2050 = .ok (.iaload, 1) := by decide +kernel
theorem dL_law_2051 : decode cL_law 2051 = .ok (.i2l, 1) := by decide +kernel
theorem dL_law_2052 : decode cL_law 2052 = .ok (.ldc2_w 262, 3) := by decide +kernel
theorem dL_law_2055 : decode cL_law 2055 = .ok (.land, 1) := by decide +kernel
theorem dL_law_2056 : decode cL_law 2056 = .ok (.lor, 1) := by decide +kernel
theorem dL_law_2057 : decode cL_law 2057 = .ok (.invokevirtual 264, 3) := by decide +kernel
theorem dL_law_2060 : decode cL_law 2060 = .ok (.pop, 1) := by decide +kernel
theorem dL_law_2061 : decode cL_law 2061 = .ok (.aload_n 2, 1) := by decide +kernel
theorem dL_law_2062 : decode cL_law 2062 = .ok (.aload_n 0, 1) := by decide +kernel
theorem dL_law_2063 : decode cL_law 2063 = .ok (.iload_n 3, 1) := by decide +kernel
theorem dL_law_2064 : decode cL_law 2064 = .ok (.iconst 1, 1) := by decide +kernel
theorem dL_law_2065 : decode cL_law 2065 = .ok (.iadd, 1) := by decide +kernel
theorem dL_law_2066 : decode cL_law 2066 = .ok (.iaload, 1) := by decide +kernel
theorem dL_law_2067 : decode cL_law 2067 = .ok (.aload_n 0, 1) := by decide +kernel
theorem dL_law_2068 : decode cL_law 2068 = .ok (.iload_n 3, 1) := by decide +kernel
theorem dL_law_2069 : decode cL_law 2069 = .ok (.iconst 2, 1) := by decide +kernel
theorem dL_law_2070 : decode cL_law 2070 = .ok (.iadd, 1) := by decide +kernel
theorem dL_law_2071 : decode cL_law 2071 = .ok (.iaload, 1) := by decide +kernel
theorem dL_law_2072 : decode cL_law 2072 = .ok (.aload_n 0, 1) := by decide +kernel
theorem dL_law_2073 : decode cL_law 2073 = .ok (.iload_n 3, 1) := by decide +kernel
theorem dL_law_2074 : decode cL_law 2074 = .ok (.iconst 3, 1) := by decide +kernel
theorem dL_law_2075 : decode cL_law 2075 = .ok (.iadd, 1) := by decide +kernel
theorem dL_law_2076 : decode cL_law 2076 = .ok (.iaload, 1) := by decide +kernel
theorem dL_law_2077 : decode cL_law 2077 = .ok (.i2l, 1) := by decide +kernel
theorem dL_law_2078 : decode cL_law 2078 = .ok (.bipush 32, 2) := by decide +kernel
theorem dL_law_2080 : decode cL_law 2080 = .ok (.lshl, 1) := by decide +kernel
theorem dL_law_2081 : decode cL_law 2081 = .ok (.aload_n 0, 1) := by decide +kernel
